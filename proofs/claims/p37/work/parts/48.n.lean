theorem dX11_untell_0 : decode cX11_untell 0 = .ok (.iload_n 1, 1) := by decide +kernel
theorem dX11_untell_1 : decode cX11_untell 1 = .ok (.iconst 0, 1) := by decide +kernel
theorem dX11_untell_2 : decode cX11_untell 2 = .ok (.aload_n 0, 1) := by decide +kernel
theorem dX11_untell_3 : decode cX11_untell 3 = .ok (.getfield 401, 3) := by decide +kernel
theorem dX11_untell_6 : decode cX11_untell 6 = .ok (.iconst 1, 1) := by decide +kernel
theorem dX11_untell_7 : decode cX11_untell 7 = .ok (.isub, 1) := by decide +kernel
theorem dX11_untell_8 : decode cX11_untell 8 = .ok (.invokestatic 387, 3) := by decide +kernel
theorem dX11_untell_11 : decode cX11_untell 11 = .ok (.ifCond .eq 12, 3) := by decide +kernel
theorem dX11_untell_14 : decode cX11_untell 14 = .ok (.aload_n 0, 1) := by decide +kernel
theorem dX11_untell_15 : decode cX11_untell 15 = .ok (.getfield 140, 3) := by decide +kernel
theorem dX11_untell_18 : decode cX11_untell 18 = .ok (.iload_n 1, 1) := by decide +kernel
theorem dX11_untell_19 : decode cX11_untell 19 = .ok (.iaload, 1) := by decide +kernel
theorem dX11_untell_20 : decode cX11_untell 20 = .ok (.ifCond .lt 5, 3) := by decide +kernel
theorem dX11_untell_23 : decode cX11_untell 23 = .ok (.iconst 0, 1) := by decide +kernel
theorem dX11_untell_24 : decode cX11_untell 24 = .ok (.ireturn, 1) := by decide +kernel
theorem dX11_untell_25 : decode cX11_untell 25 = .ok (.aload_n 0, 1) := by decide +kernel
theorem dX11_untell_26 : decode cX11_untell 26 = .ok (.getfield 140, 3) := by decide +kernel
theorem dX11_untell_29 : decode cX11_untell 29 = .ok (.iload_n 1, 1) := by decide +kernel
theorem dX11_untell_30 : decode cX11_untell 30 = .ok (.aload_n 0, 1) := by decide +kernel
theorem dX11_untell_31 : decode cX11_untell 31 = .ok (.getfield 501, 3) := by decide +kernel
theorem dX11_untell_34 : decode cX11_untell 34 = .ok (.iastore, 1) := by decide +kernel
theorem dX11_untell_35 : decode cX11_untell 35 = .ok (.iconst 1, 1) := by decide +kernel
theorem dX11_untell_36 : decode cX11_untell 36 = .ok (.ireturn, 1) := by decide +kernel
theorem dX11_later_0 : decode cX11_later 0 = .ok (.iload_n 1, 1) := by decide +kernel
theorem dX11_later_1 : decode cX11_later 1 = .ok (.iconst 0, 1) := by decide +kernel
theorem dX11_later_2 : decode cX11_later 2 = .ok (.sipush 1000, 3) := by decide +kernel
theorem dX11_later_5 : decode cX11_later 5 = .ok (.invokestatic 387, 3) := by decide +kernel
theorem dX11_later_8 : decode cX11_later 8 = .ok (.ifCond .eq 15, 3) := by decide +kernel
theorem dX11_later_11 : decode cX11_later 11 = .ok (.aload_n 0, 1) := by decide +kernel
theorem dX11_later_12 : decode cX11_later 12 = .ok (.getfield 501, 3) := by decide +kernel
theorem dX11_later_15 : decode cX11_later 15 = .ok (.iload_n 1, 1) := by decide +kernel
theorem dX11_later_16 : decode cX11_later 16 = .ok (.iadd, 1) := by decide +kernel
theorem dX11_later_17 : decode cX11_later 17 = .ok (.ldc_w 504, 3) := by decide +kernel
theorem dX11_later_20 : decode cX11_later 20 = .ok (.if_icmp .le 5, 3) := by decide +kernel
theorem dX11_later_23 : decode cX11_later 23 = .ok (.iconst (-1), 1) := by decide +kernel
theorem dX11_later_24 : decode cX11_later 24 = .ok (.ireturn, 1) := by decide +kernel
theorem dX11_later_25 : decode cX11_later 25 = .ok (.aload_n 0, 1) := by decide +kernel
theorem dX11_later_26 : decode cX11_later 26 = .ok (.dup, 1) := by decide +kernel
theorem dX11_later_27 : decode cX11_later 27 = .ok (.getfield 501, 3) := by decide +kernel
theorem dX11_later_30 : decode cX11_later 30 = .ok (.iload_n 1, 1) := by decide +kernel
theorem dX11_later_31 : decode cX11_later 31 = .ok (.iadd, 1) := by decide +kernel
theorem dX11_later_32 : decode cX11_later 32 = .ok (.putfield 501, 3) := by decide +kernel
theorem dX11_later_35 : decode cX11_later 35 = .ok (.aload_n 0, 1) := by decide +kernel
theorem dX11_later_36 : decode cX11_later 36 = .ok (.getfield 501, 3) := by decide +kernel
theorem dX11_later_39 : decode cX11_later 39 = .ok (.ireturn, 1) := by decide +kernel
theorem dX11_likingsMany_0 : decode cX11_likingsMany 0 = .ok (.iconst 1, 1) := by decide +kernel
theorem dX11_likingsMany_1 : decode cX11_likingsMany 1 = .ok (.istore_n 1, 1) := by decide +kernel
theorem dX11_likingsMany_2 : decode cX11_likingsMany 2 = .ok (.iconst 0, 1) := by decide +kernel
theorem dX11_likingsMany_3 : decode cX11_likingsMany 3 = .ok (.istore_n 2, 1) := by decide +kernel
theorem dX11_likingsMany_4 : decode cX11_likingsMany 4 = .ok (.iload_n 2, 1) := by decide +kernel
theorem dX11_likingsMany_5 : decode cX11_likingsMany 5 = .ok (.aload_n 0, 1) := by decide +kernel
theorem dX11_likingsMany_6 : decode cX11_likingsMany 6 = .ok (.getfield 20, 3) := by decide +kernel
theorem dX11_likingsMany_9 : decode cX11_likingsMany 9 = .ok (.aload_n 0, 1) := by decide +kernel
theorem dX11_likingsMany_10 : decode cX11_likingsMany 10 = .ok (.getfield 273, 3) := by decide +kernel
theorem dX11_likingsMany_13 : decode cX11_likingsMany 13 = .ok (.iaload, 1) := by decide +kernel
theorem dX11_likingsMany_14 : decode cX11_likingsMany 14 = .ok (.if_icmp .ge 14, 3) := by decide +kernel
theorem dX11_likingsMany_17 : decode cX11_likingsMany 17 = .ok (.iload_n 1, 1) := by decide +kernel
theorem dX11_likingsMany_18 : decode cX11_likingsMany 18 = .ok (.bipush 6, 2) := by decide +kernel
theorem dX11_likingsMany_20 : decode cX11_likingsMany 20 = .ok (.imul, 1) := by decide +kernel
theorem dX11_likingsMany_21 : decode cX11_likingsMany 21 = .ok (.istore_n 1, 1) := by decide +kernel
theorem dX11_likingsMany_22 : decode cX11_likingsMany 22 = .ok (.iinc 2 1, 3) := by decide +kernel
theorem dX11_likingsMany_25 : decode cX11_likingsMany 25 = .ok (.goto (-21), 3) := by decide +kernel
theorem dX11_likingsMany_28 : decode cX11_likingsMany 28 = .ok (.iload_n 1, 1) := by decide +kernel
theorem dX11_likingsMany_29 : decode cX11_likingsMany 29 = .ok (.ireturn, 1) := by decide +kernel
theorem dX11_likingOf_0 : decode cX11_likingOf 0 = .ok (.iload_n 0, 1) := by decide +kernel
theorem dX11_likingOf_1 : decode cX11_likingOf 1 = .ok (.istore_n 2, 1) := by decide +kernel
theorem dX11_likingOf_2 : decode cX11_likingOf 2 = .ok (.iconst 0, 1) := by decide +kernel
theorem dX11_likingOf_3 : decode cX11_likingOf 3 = .ok (.istore_n 3, 1) := by decide +kernel
theorem dX11_likingOf_4 : decode cX11_likingOf 4 = .ok (.iload_n 3, 1) := by decide +kernel
theorem dX11_likingOf_5 : decode cX11_likingOf 5 = .ok (.iload_n 1, 1) := by decide +kernel
theorem dX11_likingOf_6 : decode cX11_likingOf 6 = .ok (.if_icmp .ge 14, 3) := by decide +kernel
theorem dX11_likingOf_9 : decode cX11_likingOf 9 = .ok (.iload_n 2, 1) := by decide +kernel
theorem dX11_likingOf_10 : decode cX11_likingOf 10 = .ok (.bipush 6, 2) := by decide +kernel
theorem dX11_likingOf_12 : decode cX11_likingOf 12 = .ok (.idiv, 1) := by decide +kernel
theorem dX11_likingOf_13 : decode cX11_likingOf 13 = .ok (.istore_n 2, 1) := by decide +kernel
theorem dX11_likingOf_14 : decode cX11_likingOf 14 = .ok (.iinc 3 1, 3) := by decide +kernel
theorem dX11_likingOf_17 : decode cX11_likingOf 17 = .ok (.goto (-13), 3) := by decide +kernel
theorem dX11_likingOf_20 : decode cX11_likingOf 20 = .ok (.iload_n 2, 1) := by decide +kernel
theorem dX11_likingOf_21 : decode cX11_likingOf 21 = .ok (.bipush 6, 2) := by decide +kernel
theorem dX11_likingOf_23 : decode cX11_likingOf 23 = .ok (.irem, 1) := by decide +kernel
theorem dX11_likingOf_24 : decode cX11_likingOf 24 = .ok (.ireturn, 1) := by decide +kernel
theorem dX11_doesFit_0 : decode cX11_doesFit 0 = .ok (.iconst 0, 1) := by decide +kernel
theorem dX11_doesFit_1 : decode cX11_doesFit 1 = .ok (.istore_n 3, 1) := by decide +kernel
theorem dX11_doesFit_2 : decode cX11_doesFit 2 = .ok (.iload_n 3, 1) := by decide +kernel
theorem dX11_doesFit_3 : decode cX11_doesFit 3 = .ok (.aload_n 0, 1) := by decide +kernel
theorem dX11_doesFit_4 : decode cX11_doesFit 4 = .ok (.getfield 401, 3) := by decide +kernel
theorem dX11_doesFit_7 : decode cX11_doesFit 7 = .ok (.if_icmp .ge 121, 3) := by decide +kernel
theorem dX11_doesFit_10 : decode cX11_doesFit 10 = .ok (.aload_n 0, 1) := by decide +kernel
theorem dX11_doesFit_11 : decode cX11_doesFit 11 = .ok (.getfield 137, 3) := by decide +kernel
theorem dX11_doesFit_14 : decode cX11_doesFit 14 = .ok (.iload_n 3, 1) := by decide +kernel
theorem dX11_doesFit_15 : decode cX11_doesFit 15 = .ok (.iaload, 1) := by decide +kernel
theorem dX11_doesFit_16 : decode cX11_doesFit 16 = .ok (.iload_n 2, 1) := by decide +kernel
theorem dX11_doesFit_17 : decode cX11_doesFit 17 = .ok (.if_icmp .gt 105, 3) := by decide +kernel
theorem dX11_doesFit_20 : decode cX11_doesFit 20 = .ok (.aload_n 0, 1) := by decide +kernel
theorem dX11_doesFit_21 : decode cX11_doesFit 21 = .ok (.getfield 140, 3) := by decide +kernel
theorem dX11_doesFit_24 : decode cX11_doesFit 24 = .ok (.iload_n 3, 1) := by decide +kernel
theorem dX11_doesFit_25 : decode cX11_doesFit 25 = .ok (.iaload, 1) := by decide +kernel
theorem dX11_doesFit_26 : decode cX11_doesFit 26 = .ok (.ifCond .lt 16, 3) := by decide +kernel
theorem dX11_doesFit_29 : decode cX11_doesFit 29 = .ok (.aload_n 0, 1) := by decide +kernel
theorem dX11_doesFit_30 : decode cX11_doesFit 30 = .ok (.getfield 140, 3) := by decide +kernel
theorem dX11_doesFit_33 : decode cX11_doesFit 33 = .ok (.iload_n 3, 1) := by decide +kernel
theorem dX11_doesFit_34 : decode cX11_doesFit 34 = .ok (.iaload, 1) := by decide +kernel
theorem dX11_doesFit_35 : decode cX11_doesFit 35 = .ok (.iload_n 2, 1) := by decide +kernel
theorem dX11_doesFit_36 : decode cX11_doesFit 36 = .ok (.if_icmp .gt 6, 3) := by decide +kernel
theorem dX11_doesFit_39 : decode cX11_doesFit 39 = .ok (.goto 83, 3) := by decide +kernel
theorem dX11_doesFit_42 : decode cX11_doesFit 42 = .ok (.iconst 0, 1) := by decide +kernel
theorem dX11_doesFit_43 : decode cX11_doesFit 43 = .ok (.istore 4, 2) := by decide +kernel
theorem dX11_doesFit_45 : decode cX11_doesFit 45 = .ok (.iconst 0, 1) := by decide +kernel
theorem dX11_doesFit_46 : decode cX11_doesFit 46 = .ok (.istore 5, 2) := by decide +kernel
theorem dX11_doesFit_48 : decode cX11_doesFit 48 = .ok (.iload 5, 2) := by decide +kernel
theorem dX11_doesFit_50 : decode cX11_doesFit 50 = .ok (.aload_n 0, 1) := by decide +kernel
theorem dX11_doesFit_51 : decode cX11_doesFit 51 = .ok (.getfield 20, 3) := by decide +kernel
theorem dX11_doesFit_54 : decode cX11_doesFit 54 = .ok (.aload_n 0, 1) := by decide +kernel
theorem dX11_doesFit_55 : decode cX11_doesFit 55 = .ok (.getfield 273, 3) := by decide +kernel
theorem dX11_doesFit_58 : decode cX11_doesFit 58 = .ok (.iaload, 1) := by decide +kernel
theorem dX11_doesFit_59 : decode cX11_doesFit 59 = .ok (.if_icmp .ge 32, 3) := by decide +kernel
theorem dX11_doesFit_62 : decode cX11_doesFit 62 = .ok (.iload 4, 2) := by decide +kernel
theorem dX11_doesFit_64 : decode cX11_doesFit 64 = .ok (.aload_n 0, 1) := by decide +kernel
theorem dX11_doesFit_65 : decode cX11_doesFit 65 = .ok (.getfield 128, 3) := by decide +kernel
theorem dX11_doesFit_68 : decode cX11_doesFit 68 = .ok (.iconst 3, 1) := by decide +kernel
theorem dX11_doesFit_69 : decode cX11_doesFit 69 = .ok (.iload_n 3, 1) := by decide +kernel
theorem dX11_doesFit_70 : decode cX11_doesFit 70 = .ok (.imul, 1) := by decide +kernel
theorem dX11_doesFit_71 : decode cX11_doesFit 71 = .ok (.iload 5, 2) := by decide +kernel
theorem dX11_doesFit_73 : decode cX11_doesFit 73 = .ok (.iadd, 1) := by decide +kernel
theorem dX11_doesFit_74 : decode cX11_doesFit 74 = .ok (.iaload, 1) := by decide +kernel
theorem dX11_doesFit_75 : decode cX11_doesFit 75 = .ok (.iload_n 1, 1) := by decide +kernel
theorem dX11_doesFit_76 : decode cX11_doesFit 76 = .ok (.iload 5, 2) := by decide +kernel
theorem dX11_doesFit_78 : decode cX11_doesFit 78 = .ok (.invokestatic 505, 3) := by decide +kernel
theorem dX11_doesFit_81 : decode cX11_doesFit 81 = .ok (.imul, 1) := by decide +kernel
theorem dX11_doesFit_82 : decode cX11_doesFit 82 = .ok (.iadd, 1) := by decide +kernel
theorem dX11_doesFit_83 : decode cX11_doesFit 83 = .ok (.istore 4, 2) := by decide +kernel
theorem dX11_doesFit_85 : decode cX11_doesFit 85 = .ok (.iinc 5 1, 3) := by decide +kernel
theorem dX11_doesFit_88 : decode cX11_doesFit 88 = .ok (.goto (-40), 3) := by decide +kernel
theorem dX11_doesFit_91 : decode cX11_doesFit 91 = .ok (.iload 4, 2) := by decide +kernel
theorem dX11_doesFit_93 : decode cX11_doesFit 93 = .ok (.aload_n 0, 1) := by decide +kernel
theorem dX11_doesFit_94 : decode cX11_doesFit 94 = .ok (.getfield 131, 3) := by decide +kernel
theorem dX11_doesFit_97 : decode cX11_doesFit 97 = .ok (.iload_n 3, 1) := by decide +kernel
theorem dX11_doesFit_98 : decode cX11_doesFit 98 = .ok (.iaload, 1) := by decide +kernel
theorem dX11_doesFit_99 : decode cX11_doesFit 99 = .ok (.if_icmp .lt 7, 3) := by decide +kernel
theorem dX11_doesFit_102 : decode cX11_doesFit 102 = .ok (.iconst 1, 1) := by decide +kernel
theorem dX11_doesFit_103 : decode cX11_doesFit 103 = .ok (.goto 4, 3) := by decide +kernel
theorem dX11_doesFit_106 : decode cX11_doesFit 106 = .ok (.iconst 0, 1) := by decide +kernel
theorem dX11_doesFit_107 : decode cX11_doesFit 107 = .ok (.istore 5, 2) := by decide +kernel
theorem dX11_doesFit_109 : decode cX11_doesFit 109 = .ok (.iload 5, 2) := by decide +kernel
theorem dX11_doesFit_111 : decode cX11_doesFit 111 = .ok (.aload_n 0, 1) := by decide +kernel
theorem dX11_doesFit_112 : decode cX11_doesFit 112 = .ok (.getfield 134, 3) := by decide +kernel
theorem dX11_doesFit_115 : decode cX11_doesFit 115 = .ok (.iload_n 3, 1) := by decide +kernel
theorem dX11_doesFit_116 : decode cX11_doesFit 116 = .ok (.iaload, 1) := by decide +kernel
theorem dX11_doesFit_117 : decode cX11_doesFit 117 = .ok (.if_icmp .eq 5, 3) := by decide +kernel
theorem dX11_doesFit_120 : decode cX11_doesFit 120 = .ok (.iconst 0, 1) := by decide +kernel
theorem dX11_doesFit_121 : decode cX11_doesFit 121 = .ok (.ireturn, 1) := by decide +kernel
theorem dX11_doesFit_122 : decode cX11_doesFit 122 = .ok (.iinc 3 1, 3) := by decide +kernel
theorem dX11_doesFit_125 : decode cX11_doesFit 125 = .ok (.goto (-123), 3) := by decide +kernel
theorem dX11_doesFit_128 : decode cX11_doesFit 128 = .ok (.iconst 1, 1) := by decide +kernel
theorem dX11_doesFit_129 : decode cX11_doesFit 129 = .ok (.ireturn, 1) := by decide +kernel
theorem dX11_fit_0 : decode cX11_fit 0 = .ok (.iconst 0, 1) := by decide +kernel
theorem dX11_fit_1 : decode cX11_fit 1 = .ok (.istore_n 2, 1) := by decide +kernel
theorem dX11_fit_2 : decode cX11_fit 2 = .ok (.iconst 0, 1) := by decide +kernel
theorem dX11_fit_3 : decode cX11_fit 3 = .ok (.istore_n 3, 1) := by decide +kernel
theorem dX11_fit_4 : decode cX11_fit 4 = .ok (.iload_n 3, 1) := by decide +kernel
theorem dX11_fit_5 : decode cX11_fit 5 = .ok (.aload_n 0, 1) := by decide +kernel
theorem dX11_fit_6 : decode cX11_fit 6 = .ok (.invokevirtual 508, 3) := by decide +kernel
theorem dX11_fit_9 : decode cX11_fit 9 = .ok (.if_icmp .ge 26, 3) := by decide +kernel
theorem dX11_fit_12 : decode cX11_fit 12 = .ok (.iload_n 2, 1) := by decide +kernel
theorem dX11_fit_13 : decode cX11_fit 13 = .ok (.aload_n 0, 1) := by decide +kernel
theorem dX11_fit_14 : decode cX11_fit 14 = .ok (.iload_n 3, 1) := by decide +kernel
theorem dX11_fit_15 : decode cX11_fit 15 = .ok (.iload_n 1, 1) := by decide +kernel
theorem dX11_fit_16 : decode cX11_fit 16 = .ok (.invokevirtual 511, 3) := by decide +kernel
theorem dX11_fit_19 : decode cX11_fit 19 = .ok (.ifCond .eq 7, 3) := by decide +kernel
theorem dX11_fit_22 : decode cX11_fit 22 = .ok (.iconst 1, 1) := by decide +kernel
theorem dX11_fit_23 : decode cX11_fit 23 = .ok (.goto 4, 3) := by decide +kernel
theorem dX11_fit_26 : decode cX11_fit 26 = .ok (.iconst 0, 1) := by decide +kernel
theorem dX11_fit_27 : decode cX11_fit 27 = .ok (.iadd, 1) := by decide +kernel
theorem dX11_fit_28 : decode cX11_fit 28 = .ok (.istore_n 2, 1) := by decide +kernel
theorem dX11_fit_29 : decode cX11_fit 29 = .ok (.iinc 3 1, 3) := by decide +kernel
theorem dX11_fit_32 : decode cX11_fit 32 = .ok (.goto (-28), 3) := by decide +kernel
theorem dX11_fit_35 : decode cX11_fit 35 = .ok (.iload_n 2, 1) := by decide +kernel
theorem dX11_fit_36 : decode cX11_fit 36 = .ok (.ireturn, 1) := by decide +kernel
theorem dX11_sure_0 : decode cX11_sure 0 = .ok (.aload_n 0, 1) := by decide +kernel
theorem dX11_sure_1 : decode cX11_sure 1 = .ok (.iload_n 1, 1) := by decide +kernel
theorem dX11_sure_2 : decode cX11_sure 2 = .ok (.invokevirtual 437, 3) := by decide +kernel
theorem dX11_sure_5 : decode cX11_sure 5 = .ok (.ifCond .ne 5, 3) := by decide +kernel
theorem dX11_sure_8 : decode cX11_sure 8 = .ok (.iconst (-1), 1) := by decide +kernel
theorem dX11_sure_9 : decode cX11_sure 9 = .ok (.ireturn, 1) := by decide +kernel
theorem dX11_sure_10 : decode cX11_sure 10 = .ok (.iconst (-1), 1) := by decide +kernel
theorem dX11_sure_11 : decode cX11_sure 11 = .ok (.istore_n 3, 1) := by decide +kernel
theorem dX11_sure_12 : decode cX11_sure 12 = .ok (.iconst 0, 1) := by decide +kernel
theorem dX11_sure_13 : decode cX11_sure 13 = .ok (.istore 4, 2) := by decide +kernel
theorem dX11_sure_15 : decode cX11_sure 15 = .ok (.iload 4, 2) := by decide +kernel
theorem dX11_sure_17 : decode cX11_sure 17 = .ok (.aload_n 0, 1) := by decide +kernel
theorem dX11_sure_18 : decode cX11_sure 18 = .ok (.invokevirtual 508, 3) := by decide +kernel
theorem dX11_sure_21 : decode cX11_sure 21 = .ok (.if_icmp .ge 46, 3) := by decide +kernel
theorem dX11_sure_24 : decode cX11_sure 24 = .ok (.aload_n 0, 1) := by decide +kernel
theorem dX11_sure_25 : decode cX11_sure 25 = .ok (.iload 4, 2) := by decide +kernel
theorem dX11_sure_27 : decode cX11_sure 27 = .ok (.iload_n 2, 1) := by decide +kernel
theorem dX11_sure_28 : decode cX11_sure 28 = .ok (.invokevirtual 511, 3) := by decide +kernel
theorem dX11_sure_31 : decode cX11_sure 31 = .ok (.ifCond .ne 6, 3) := by decide +kernel
theorem dX11_sure_34 : decode cX11_sure 34 = .ok (.goto 27, 3) := by decide +kernel
theorem dX11_sure_37 : decode cX11_sure 37 = .ok (.iload_n 3, 1) := by decide +kernel
theorem dX11_sure_38 : decode cX11_sure 38 = .ok (.ifCond .lt 16, 3) := by decide +kernel
theorem dX11_sure_41 : decode cX11_sure 41 = .ok (.iload_n 3, 1) := by decide +kernel
theorem dX11_sure_42 : decode cX11_sure 42 = .ok (.iload 4, 2) := by decide +kernel
theorem dX11_sure_44 : decode cX11_sure 44 = .ok (.iload_n 1, 1) := by decide +kernel
theorem dX11_sure_45 : decode cX11_sure 45 = .ok (.invokestatic 505, 3) := by decide +kernel
theorem dX11_sure_48 : decode cX11_sure 48 = .ok (.if_icmp .eq 6, 3) := by decide +kernel
theorem dX11_sure_51 : decode cX11_sure 51 = .ok (.bipush (-2), 2) := by decide +kernel
theorem dX11_sure_53 : decode cX11_sure 53 = .ok (.ireturn, 1) := by decide +kernel
theorem dX11_sure_54 : decode cX11_sure 54 = .ok (.iload 4, 2) := by decide +kernel
theorem dX11_sure_56 : decode cX11_sure 56 = .ok (.iload_n 1, 1) := by decide +kernel
theorem dX11_sure_57 : decode cX11_sure 57 = .ok (.invokestatic 505, 3) := by decide +kernel
theorem dX11_sure_60 : decode cX11_sure 60 = .ok (.istore_n 3, 1) := by decide +kernel
theorem dX11_sure_61 : decode cX11_sure 61 = .ok (.iinc 4 1, 3) := by decide +kernel
theorem dX11_sure_64 : decode cX11_sure 64 = .ok (.goto (-49), 3) := by decide +kernel
theorem dX11_sure_67 : decode cX11_sure 67 = .ok (.iload_n 3, 1) := by decide +kernel
theorem dX11_sure_68 : decode cX11_sure 68 = .ok (.ireturn, 1) := by decide +kernel
theorem dX11_fullBy_0 : decode cX11_fullBy 0 = .ok (.iconst 0, 1) := by decide +kernel
theorem dX11_fullBy_1 : decode cX11_fullBy 1 = .ok (.istore 5, 2) := by decide +kernel
theorem dX11_fullBy_3 : decode cX11_fullBy 3 = .ok (.iconst 0, 1) := by decide +kernel
theorem dX11_fullBy_4 : decode cX11_fullBy 4 = .ok (.istore 6, 2) := by decide +kernel
theorem dX11_fullBy_6 : decode cX11_fullBy 6 = .ok (.iload 6, 2) := by decide +kernel
theorem dX11_fullBy_8 : decode cX11_fullBy 8 = .ok (.aload_n 0, 1) := by decide +kernel
theorem dX11_fullBy_9 : decode cX11_fullBy 9 = .ok (.invokevirtual 508, 3) := by decide +kernel
theorem dX11_fullBy_12 : decode cX11_fullBy 12 = .ok (.if_icmp .ge 35, 3) := by decide +kernel
theorem dX11_fullBy_15 : decode cX11_fullBy 15 = .ok (.aload_n 0, 1) := by decide +kernel
theorem dX11_fullBy_16 : decode cX11_fullBy 16 = .ok (.iload 6, 2) := by decide +kernel
theorem dX11_fullBy_18 : decode cX11_fullBy 18 = .ok (.iload 4, 2) := by decide +kernel
theorem dX11_fullBy_20 : decode cX11_fullBy 20 = .ok (.invokevirtual 511, 3) := by decide +kernel
theorem dX11_fullBy_23 : decode cX11_fullBy 23 = .ok (.ifCond .eq 18, 3) := by decide +kernel
theorem dX11_fullBy_26 : decode cX11_fullBy 26 = .ok (.iload_n 2, 1) := by decide +kernel
theorem dX11_fullBy_27 : decode cX11_fullBy 27 = .ok (.iload 6, 2) := by decide +kernel
theorem dX11_fullBy_29 : decode cX11_fullBy 29 = .ok (.iload_n 1, 1) := by decide +kernel
theorem dX11_fullBy_30 : decode cX11_fullBy 30 = .ok (.invokestatic 505, 3) := by decide +kernel
theorem dX11_fullBy_33 : decode cX11_fullBy 33 = .ok (.imul, 1) := by decide +kernel
theorem dX11_fullBy_34 : decode cX11_fullBy 34 = .ok (.iload_n 3, 1) := by decide +kernel
theorem dX11_fullBy_35 : decode cX11_fullBy 35 = .ok (.if_icmp .lt 6, 3) := by decide +kernel
theorem dX11_fullBy_38 : decode cX11_fullBy 38 = .ok (.iinc 5 1, 3) := by decide +kernel
theorem dX11_fullBy_41 : decode cX11_fullBy 41 = .ok (.iinc 6 1, 3) := by decide +kernel
theorem dX11_fullBy_44 : decode cX11_fullBy 44 = .ok (.goto (-38), 3) := by decide +kernel
theorem dX11_fullBy_47 : decode cX11_fullBy 47 = .ok (.iload 5, 2) := by decide +kernel
theorem dX11_fullBy_49 : decode cX11_fullBy 49 = .ok (.ireturn, 1) := by decide +kernel
theorem dX11_ask_0 : decode cX11_ask 0 = .ok (.iload_n 1, 1) := by decide +kernel
theorem dX11_ask_1 : decode cX11_ask 1 = .ok (.iconst 1, 1) := by decide +kernel
theorem dX11_ask_2 : decode cX11_ask 2 = .ok (.bipush 99, 2) := by decide +kernel
theorem dX11_ask_4 : decode cX11_ask 4 = .ok (.invokestatic 387, 3) := by decide +kernel
theorem dX11_ask_7 : decode cX11_ask 7 = .ok (.ifCond .eq 12, 3) := by decide +kernel
theorem dX11_ask_10 : decode cX11_ask 10 = .ok (.iload_n 2, 1) := by decide +kernel
theorem dX11_ask_11 : decode cX11_ask 11 = .ok (.iconst 0, 1) := by decide +kernel
theorem dX11_ask_12 : decode cX11_ask 12 = .ok (.iconst 1, 1) := by decide +kernel
theorem dX11_ask_13 : decode cX11_ask 13 = .ok (.invokestatic 387, 3) := by decide +kernel
theorem dX11_ask_16 : decode cX11_ask 16 = .ok (.ifCond .ne 5, 3) := by decide +kernel
theorem dX11_ask_19 : decode cX11_ask 19 = .ok (.iconst (-1), 1) := by decide +kernel
theorem dX11_ask_20 : decode cX11_ask 20 = .ok (.ireturn, 1) := by decide +kernel
theorem dX11_ask_21 : decode cX11_ask 21 = .ok (.aload_n 0, 1) := by decide +kernel
theorem dX11_ask_22 : decode cX11_ask 22 = .ok (.iload_n 3, 1) := by decide +kernel
theorem dX11_ask_23 : decode cX11_ask 23 = .ok (.invokevirtual 514, 3) := by decide +kernel
theorem dX11_ask_26 : decode cX11_ask 26 = .ok (.istore 4, 2) := by decide +kernel
theorem dX11_ask_28 : decode cX11_ask 28 = .ok (.iload 4, 2) := by decide +kernel
theorem dX11_ask_30 : decode cX11_ask 30 = .ok (.ifCond .ne 5, 3) := by decide +kernel
theorem dX11_ask_33 : decode cX11_ask 33 = .ok (.iconst (-1), 1) := by decide +kernel
theorem dX11_ask_34 : decode cX11_ask 34 = .ok (.ireturn, 1) := by decide +kernel
theorem dX11_ask_35 : decode cX11_ask 35 = .ok (.iconst (-1), 1) := by decide +kernel
theorem dX11_ask_36 : decode cX11_ask 36 = .ok (.istore 5, 2) := by decide +kernel
theorem dX11_ask_38 : decode cX11_ask 38 = .ok (.iconst 0, 1) := by decide +kernel
theorem dX11_ask_39 : decode cX11_ask 39 = .ok (.istore 6, 2) := by decide +kernel
theorem dX11_ask_41 : decode cX11_ask 41 = .ok (.iconst 0, 1) := by decide +kernel
theorem dX11_ask_42 : decode cX11_ask 42 = .ok (.istore 7, 2) := by decide +kernel
theorem dX11_ask_44 : decode cX11_ask 44 = .ok (.iload 7, 2) := by decide +kernel
theorem dX11_ask_46 : decode cX11_ask 46 = .ok (.aload_n 0, 1) := by decide +kernel
theorem dX11_ask_47 : decode cX11_ask 47 = .ok (.getfield 20, 3) := by decide +kernel
theorem dX11_ask_50 : decode cX11_ask 50 = .ok (.aload_n 0, 1) := by decide +kernel
theorem dX11_ask_51 : decode cX11_ask 51 = .ok (.getfield 273, 3) := by decide +kernel
theorem dX11_ask_54 : decode cX11_ask 54 = .ok (.iaload, 1) := by decide +kernel
theorem dX11_ask_55 : decode cX11_ask 55 = .ok (.if_icmp .ge 88, 3) := by decide +kernel
theorem dX11_ask_58 : decode cX11_ask 58 = .ok (.iconst 1, 1) := by decide +kernel
theorem dX11_ask_59 : decode cX11_ask 59 = .ok (.istore 8, 2) := by decide +kernel
theorem dX11_ask_61 : decode cX11_ask 61 = .ok (.iload 8, 2) := by decide +kernel
theorem dX11_ask_63 : decode cX11_ask 63 = .ok (.bipush 9, 2) := by decide +kernel
theorem dX11_ask_65 : decode cX11_ask 65 = .ok (.if_icmp .gt 72, 3) := by decide +kernel
theorem dX11_ask_68 : decode cX11_ask 68 = .ok (.aload_n 0, 1) := by decide +kernel
theorem dX11_ask_69 : decode cX11_ask 69 = .ok (.iload 7, 2) := by decide +kernel
theorem dX11_ask_71 : decode cX11_ask 71 = .ok (.iload 8, 2) := by decide +kernel
theorem dX11_ask_73 : decode cX11_ask 73 = .ok (.iload_n 1, 1) := by decide +kernel
theorem dX11_ask_74 : decode cX11_ask 74 = .ok (.iload_n 3, 1) := by decide +kernel
theorem dX11_ask_75 : decode cX11_ask 75 = .ok (.invokevirtual 517, 3) := by decide +kernel
theorem dX11_ask_78 : decode cX11_ask 78 = .ok (.istore 9, 2) := by decide +kernel
theorem dX11_ask_80 : decode cX11_ask 80 = .ok (.iload 9, 2) := by decide +kernel
theorem dX11_ask_82 : decode cX11_ask 82 = .ok (.iload 4, 2) := by decide +kernel
theorem dX11_ask_84 : decode cX11_ask 84 = .ok (.iload 9, 2) := by decide +kernel
theorem dX11_ask_86 : decode cX11_ask 86 = .ok (.isub, 1) := by decide +kernel
theorem dX11_ask_87 : decode cX11_ask 87 = .ok (.if_icmp .le 8, 3) := by decide +kernel
theorem dX11_ask_90 : decode cX11_ask 90 = .ok (.iload 9, 2) := by decide +kernel
theorem dX11_ask_92 : decode cX11_ask 92 = .ok (.goto 8, 3) := by decide +kernel
theorem dX11_ask_95 : decode cX11_ask 95 = .ok (.iload 4, 2) := by decide +kernel
theorem dX11_ask_97 : decode cX11_ask 97 = .ok (.iload 9, 2) := by decide +kernel
theorem dX11_ask_99 : decode cX11_ask 99 = .ok (.isub, 1) := by decide +kernel
theorem dX11_ask_100 : decode cX11_ask 100 = .ok (.istore 10, 2) := by decide +kernel
theorem dX11_ask_102 : decode cX11_ask 102 = .ok (.iload 5, 2) := by decide +kernel
theorem dX11_ask_104 : decode cX11_ask 104 = .ok (.ifCond .lt 13, 3) := by decide +kernel
theorem dX11_ask_107 : decode cX11_ask 107 = .ok (.iload 10, 2) := by decide +kernel
theorem dX11_ask_109 : decode cX11_ask 109 = .ok (.iload 6, 2) := by decide +kernel
theorem dX11_ask_111 : decode cX11_ask 111 = .ok (.if_icmp .lt 6, 3) := by decide +kernel
theorem dX11_ask_114 : decode cX11_ask 114 = .ok (.goto 17, 3) := by decide +kernel
theorem dX11_ask_117 : decode cX11_ask 117 = .ok (.bipush 10, 2) := by decide +kernel
theorem dX11_ask_119 : decode cX11_ask 119 = .ok (.iload 7, 2) := by decide +kernel
theorem dX11_ask_121 : decode cX11_ask 121 = .ok (.imul, 1) := by decide +kernel
theorem dX11_ask_122 : decode cX11_ask 122 = .ok (.iload 8, 2) := by decide +kernel
theorem dX11_ask_124 : decode cX11_ask 124 = .ok (.iadd, 1) := by decide +kernel
theorem dX11_ask_125 : decode cX11_ask 125 = .ok (.istore 5, 2) := by decide +kernel
theorem dX11_ask_127 : decode cX11_ask 127 = .ok (.iload 10, 2) := by decide +kernel
theorem dX11_ask_129 : decode cX11_ask 129 = .ok (.istore 6, 2) := by decide +kernel
theorem dX11_ask_131 : decode cX11_ask 131 = .ok (.iinc 8 1, 3) := by decide +kernel
theorem dX11_ask_134 : decode cX11_ask 134 = .ok (.goto (-73), 3) := by decide +kernel
theorem dX11_ask_137 : decode cX11_ask 137 = .ok (.iinc 7 1, 3) := by decide +kernel
theorem dX11_ask_140 : decode cX11_ask 140 = .ok (.goto (-96), 3) := by decide +kernel
theorem dX11_ask_143 : decode cX11_ask 143 = .ok (.iload 5, 2) := by decide +kernel
theorem dX11_ask_145 : decode cX11_ask 145 = .ok (.ifCond .ge 7, 3) := by decide +kernel
theorem dX11_ask_148 : decode cX11_ask 148 = .ok (.iconst (-1), 1) := by decide +kernel
theorem dX11_ask_149 : decode cX11_ask 149 = .ok (.goto 14, 3) := by decide +kernel
theorem dX11_ask_152 : decode cX11_ask 152 = .ok (.iload_n 2, 1) := by decide +kernel
theorem dX11_ask_153 : decode cX11_ask 153 = .ok (.ifCond .ne 8, 3) := by decide +kernel
theorem dX11_ask_156 : decode cX11_ask 156 = .ok (.iload 5, 2) := by decide +kernel
theorem dX11_ask_158 : decode cX11_ask 158 = .ok (.goto 5, 3) := by decide +kernel
theorem dX11_ask_161 : decode cX11_ask 161 = .ok (.iload 6, 2) := by decide +kernel
theorem dX11_ask_163 : decode cX11_ask 163 = .ok (.ireturn, 1) := by decide +kernel
theorem dX11_image_0 : decode cX11_image 0 = .ok (.iload_n 1, 1) := by decide +kernel
theorem dX11_image_1 : decode cX11_image 1 = .ok (.iconst 0, 1) := by decide +kernel
theorem dX11_image_2 : decode cX11_image 2 = .ok (.iconst 2, 1) := by decide +kernel
theorem dX11_image_3 : decode cX11_image 3 = .ok (.invokestatic 387, 3) := by decide +kernel
theorem dX11_image_6 : decode cX11_image 6 = .ok (.ifCond .ne 5, 3) := by decide +kernel
theorem dX11_image_9 : decode cX11_image 9 = .ok (.iconst (-1), 1) := by decide +kernel
theorem dX11_image_10 : decode cX11_image 10 = .ok (.ireturn, 1) := by decide +kernel
theorem dX11_image_11 : decode cX11_image 11 = .ok (.iconst 0, 1) := by decide +kernel
theorem dX11_image_12 : decode cX11_image 12 = .ok (.istore_n 2, 1) := by decide +kernel
theorem dX11_image_13 : decode cX11_image 13 = .ok (.iload_n 2, 1) := by decide +kernel
theorem dX11_image_14 : decode cX11_image 14 = .ok (.bipush 43, 2) := by decide +kernel
theorem dX11_image_16 : decode cX11_image 16 = .ok (.if_icmp .ge 26, 3) := by decide +kernel
theorem dX11_image_19 : decode cX11_image 19 = .ok (.aload_n 0, 1) := by decide +kernel
theorem dX11_image_20 : decode cX11_image 20 = .ok (.getfield 143, 3) := by decide +kernel
theorem dX11_image_23 : decode cX11_image 23 = .ok (.bipush 43, 2) := by decide +kernel
theorem dX11_image_25 : decode cX11_image 25 = .ok (.iload_n 1, 1) := by decide +kernel
theorem dX11_image_26 : decode cX11_image 26 = .ok (.imul, 1) := by decide +kernel
theorem dX11_image_27 : decode cX11_image 27 = .ok (.iload_n 2, 1) := by decide +kernel
theorem dX11_image_28 : decode cX11_image 28 = .ok (.iadd, 1) := by decide +kernel
theorem dX11_image_29 : decode cX11_image 29 = .ok (.aload_n 0, 1) := by decide +kernel
theorem dX11_image_30 : decode cX11_image 30 = .ok (.getfield 113, 3) := by decide +kernel
theorem dX11_image_33 : decode cX11_image 33 = .ok (.iload_n 2, 1) := by decide +kernel
theorem dX11_image_34 : decode cX11_image 34 = .ok (.iaload, 1) := by decide +kernel
theorem dX11_image_35 : decode cX11_image 35 = .ok (.iastore, 1) := by decide +kernel
theorem dX11_image_36 : decode cX11_image 36 = .ok (.iinc 2 1, 3) := by decide +kernel
theorem dX11_image_39 : decode cX11_image 39 = .ok (.goto (-26), 3) := by decide +kernel
theorem dX11_image_42 : decode cX11_image 42 = .ok (.aload_n 0, 1) := by decide +kernel
theorem dX11_image_43 : decode cX11_image 43 = .ok (.getfield 146, 3) := by decide +kernel
theorem dX11_image_46 : decode cX11_image 46 = .ok (.iload_n 1, 1) := by decide +kernel
theorem dX11_image_47 : decode cX11_image 47 = .ok (.iconst 1, 1) := by decide +kernel
theorem dX11_image_48 : decode cX11_image 48 = .ok (.bastore, 1) := by decide +kernel
theorem dX11_image_49 : decode cX11_image 49 = .ok (.aload_n 0, 1) := by decide +kernel
theorem dX11_image_50 : decode cX11_image 50 = .ok (.getfield 113, 3) := by decide +kernel
theorem dX11_image_53 : decode cX11_image 53 = .ok (.bipush 40, 2) := by decide +kernel
theorem dX11_image_55 : decode cX11_image 55 = .ok (.iaload, 1) := by decide +kernel
theorem dX11_image_56 : decode cX11_image 56 = .ok (.ireturn, 1) := by decide +kernel
theorem dX11_back_0 : decode cX11_back 0 = .ok (.iload_n 1, 1) := by decide +kernel
theorem dX11_back_1 : decode cX11_back 1 = .ok (.iconst 0, 1) := by decide +kernel
theorem dX11_back_2 : decode cX11_back 2 = .ok (.iconst 2, 1) := by decide +kernel
theorem dX11_back_3 : decode cX11_back 3 = .ok (.invokestatic 387, 3) := by decide +kernel
theorem dX11_back_6 : decode cX11_back 6 = .ok (.ifCond .eq 12, 3) := by decide +kernel
theorem dX11_back_9 : decode cX11_back 9 = .ok (.aload_n 0, 1) := by decide +kernel
theorem dX11_back_10 : decode cX11_back 10 = .ok (.getfield 146, 3) := by decide +kernel
theorem dX11_back_13 : decode cX11_back 13 = .ok (.iload_n 1, 1) := by decide +kernel
theorem dX11_back_14 : decode cX11_back 14 = .ok (.baload, 1) := by decide +kernel
theorem dX11_back_15 : decode cX11_back 15 = .ok (.ifCond .ne 5, 3) := by decide +kernel
theorem dX11_back_18 : decode cX11_back 18 = .ok (.iconst (-1), 1) := by decide +kernel
theorem dX11_back_19 : decode cX11_back 19 = .ok (.ireturn, 1) := by decide +kernel
theorem dX11_back_20 : decode cX11_back 20 = .ok (.iconst 0, 1) := by decide +kernel
theorem dX11_back_21 : decode cX11_back 21 = .ok (.istore_n 2, 1) := by decide +kernel
theorem dX11_back_22 : decode cX11_back 22 = .ok (.iload_n 2, 1) := by decide +kernel
theorem dX11_back_23 : decode cX11_back 23 = .ok (.bipush 43, 2) := by decide +kernel
theorem dX11_back_25 : decode cX11_back 25 = .ok (.if_icmp .ge 26, 3) := by decide +kernel
theorem dX11_back_28 : decode cX11_back 28 = .ok (.aload_n 0, 1) := by decide +kernel
theorem dX11_back_29 : decode cX11_back 29 = .ok (.getfield 113, 3) := by decide +kernel
theorem dX11_back_32 : decode cX11_back 32 = .ok (.iload_n 2, 1) := by decide +kernel
theorem dX11_back_33 : decode cX11_back 33 = .ok (.aload_n 0, 1) := by decide +kernel
theorem dX11_back_34 : decode cX11_back 34 = .ok (.getfield 143, 3) := by decide +kernel
theorem dX11_back_37 : decode cX11_back 37 = .ok (.bipush 43, 2) := by decide +kernel
theorem dX11_back_39 : decode cX11_back 39 = .ok (.iload_n 1, 1) := by decide +kernel
theorem dX11_back_40 : decode cX11_back 40 = .ok (.imul, 1) := by decide +kernel
theorem dX11_back_41 : decode cX11_back 41 = .ok (.iload_n 2, 1) := by decide +kernel
theorem dX11_back_42 : decode cX11_back 42 = .ok (.iadd, 1) := by decide +kernel
theorem dX11_back_43 : decode cX11_back 43 = .ok (.iaload, 1) := by decide +kernel
theorem dX11_back_44 : decode cX11_back 44 = .ok (.iastore, 1) := by decide +kernel
theorem dX11_back_45 : decode cX11_back 45 = .ok (.iinc 2 1, 3) := by decide +kernel
theorem dX11_back_48 : decode cX11_back 48 = .ok (.goto (-26), 3) := by decide +kernel
theorem dX11_back_51 : decode cX11_back 51 = .ok (.aload_n 0, 1) := by decide +kernel
theorem dX11_back_52 : decode cX11_back 52 = .ok (.iconst 0, 1) := by decide +kernel
theorem dX11_back_53 : decode cX11_back 53 = .ok (.putfield 395, 3) := by decide +kernel
theorem dX11_back_56 : decode cX11_back 56 = .ok (.aload_n 0, 1) := by decide +kernel
theorem dX11_back_57 : decode cX11_back 57 = .ok (.iconst 0, 1) := by decide +kernel
theorem dX11_back_58 : decode cX11_back 58 = .ok (.putfield 398, 3) := by decide +kernel
theorem dX11_back_61 : decode cX11_back 61 = .ok (.aload_n 0, 1) := by decide +kernel
theorem dX11_back_62 : decode cX11_back 62 = .ok (.getfield 113, 3) := by decide +kernel
theorem dX11_back_65 : decode cX11_back 65 = .ok (.bipush 40, 2) := by decide +kernel
theorem dX11_back_67 : decode cX11_back 67 = .ok (.iaload, 1) := by decide +kernel
theorem dX11_back_68 : decode cX11_back 68 = .ok (.ireturn, 1) := by decide +kernel
theorem dX11_about_0 : decode cX11_about 0 = .ok (.iload_n 1, 1) := by decide +kernel
theorem dX11_about_1 : decode cX11_about 1 = .ok (.tableswitch 182 0 14 #[75, 80, 90, 100, 110, 118, 126, 134, 142, 147, 152, 157, 162, 167, 177], 75) := by decide +kernel
theorem dX11_about_76 : decode cX11_about 76 = .ok (.aload_n 0, 1) := by decide +kernel
theorem dX11_about_77 : decode cX11_about 77 = .ok (.invokevirtual 384, 3) := by decide +kernel
theorem dX11_about_80 : decode cX11_about 80 = .ok (.ireturn, 1) := by decide +kernel
theorem dX11_about_81 : decode cX11_about 81 = .ok (.aload_n 0, 1) := by decide +kernel
theorem dX11_about_82 : decode cX11_about 82 = .ok (.getfield 20, 3) := by decide +kernel
theorem dX11_about_85 : decode cX11_about 85 = .ok (.aload_n 0, 1) := by decide +kernel
theorem dX11_about_86 : decode cX11_about 86 = .ok (.getfield 273, 3) := by decide +kernel
theorem dX11_about_89 : decode cX11_about 89 = .ok (.iaload, 1) := by decide +kernel
theorem dX11_about_90 : decode cX11_about 90 = .ok (.ireturn, 1) := by decide +kernel
theorem dX11_about_91 : decode cX11_about 91 = .ok (.aload_n 0, 1) := by decide +kernel
theorem dX11_about_92 : decode cX11_about 92 = .ok (.getfield 27, 3) := by decide +kernel
theorem dX11_about_95 : decode cX11_about 95 = .ok (.aload_n 0, 1) := by decide +kernel
theorem dX11_about_96 : decode cX11_about 96 = .ok (.getfield 273, 3) := by decide +kernel
theorem dX11_about_99 : decode cX11_about 99 = .ok (.iaload, 1) := by decide +kernel
theorem dX11_about_100 : decode cX11_about 100 = .ok (.ireturn, 1) := by decide +kernel
theorem dX11_about_101 : decode cX11_about 101 = .ok (.aload_n 0, 1) := by decide +kernel
theorem dX11_about_102 : decode cX11_about 102 = .ok (.getfield 33, 3) := by decide +kernel
theorem dX11_about_105 : decode cX11_about 105 = .ok (.aload_n 0, 1) := by decide +kernel
theorem dX11_about_106 : decode cX11_about 106 = .ok (.getfield 273, 3) := by decide +kernel
theorem dX11_about_109 : decode cX11_about 109 = .ok (.iaload, 1) := by decide +kernel
theorem dX11_about_110 : decode cX11_about 110 = .ok (.ireturn, 1) := by decide +kernel
theorem dX11_about_111 : decode cX11_about 111 = .ok (.aload_n 0, 1) := by decide +kernel
theorem dX11_about_112 : decode cX11_about 112 = .ok (.getfield 113, 3) := by decide +kernel
theorem dX11_about_115 : decode cX11_about 115 = .ok (.bipush 40, 2) := by decide +kernel
theorem dX11_about_117 : decode cX11_about 117 = .ok (.iaload, 1) := by decide +kernel
theorem dX11_about_118 : decode cX11_about 118 = .ok (.ireturn, 1) := by decide +kernel
theorem dX11_about_119 : decode cX11_about 119 = .ok (.aload_n 0, 1) := by decide +kernel
theorem dX11_about_120 : decode cX11_about 120 = .ok (.getfield 113, 3) := by decide +kernel
theorem dX11_about_123 : decode cX11_about 123 = .ok (.bipush 41, 2) := by decide +kernel
theorem dX11_about_125 : decode cX11_about 125 = .ok (.iaload, 1) := by decide +kernel
theorem dX11_about_126 : decode cX11_about 126 = .ok (.ireturn, 1) := by decide +kernel
theorem dX11_about_127 : decode cX11_about 127 = .ok (.aload_n 0, 1) := by decide +kernel
theorem dX11_about_128 : decode cX11_about 128 = .ok (.getfield 113, 3) := by decide +kernel
theorem dX11_about_131 : decode cX11_about 131 = .ok (.bipush 42, 2) := by decide +kernel
theorem dX11_about_133 : decode cX11_about 133 = .ok (.iaload, 1) := by decide +kernel
theorem dX11_about_134 : decode cX11_about 134 = .ok (.ireturn, 1) := by decide +kernel
theorem dX11_about_135 : decode cX11_about 135 = .ok (.aload_n 0, 1) := by decide +kernel
theorem dX11_about_136 : decode cX11_about 136 = .ok (.getfield 113, 3) := by decide +kernel
theorem dX11_about_139 : decode cX11_about 139 = .ok (.bipush 39, 2) := by decide +kernel
theorem dX11_about_141 : decode cX11_about 141 = .ok (.iaload, 1) := by decide +kernel
theorem dX11_about_142 : decode cX11_about 142 = .ok (.ireturn, 1) := by decide +kernel
theorem dX11_about_143 : decode cX11_about 143 = .ok (.aload_n 0, 1) := by decide +kernel
theorem dX11_about_144 : decode cX11_about 144 = .ok (.getfield 395, 3) := by decide +kernel
theorem dX11_about_147 : decode cX11_about 147 = .ok (.ireturn, 1) := by decide +kernel
theorem dX11_about_148 : decode cX11_about 148 = .ok (.aload_n 0, 1) := by decide +kernel
theorem dX11_about_149 : decode cX11_about 149 = .ok (.getfield 398, 3) := by decide +kernel
theorem dX11_about_152 : decode cX11_about 152 = .ok (.ireturn, 1) := by decide +kernel
theorem dX11_about_153 : decode cX11_about 153 = .ok (.aload_n 0, 1) := by decide +kernel
theorem dX11_about_154 : decode cX11_about 154 = .ok (.getfield 401, 3) := by decide +kernel
theorem dX11_about_157 : decode cX11_about 157 = .ok (.ireturn, 1) := by decide +kernel
theorem dX11_about_158 : decode cX11_about 158 = .ok (.aload_n 0, 1) := by decide +kernel
theorem dX11_about_159 : decode cX11_about 159 = .ok (.getfield 501, 3) := by decide +kernel
theorem dX11_about_162 : decode cX11_about 162 = .ok (.ireturn, 1) := by decide +kernel
theorem dX11_about_163 : decode cX11_about 163 = .ok (.aload_n 0, 1) := by decide +kernel
theorem dX11_about_164 : decode cX11_about 164 = .ok (.getfield 270, 3) := by decide +kernel
theorem dX11_about_167 : decode cX11_about 167 = .ok (.ireturn, 1) := by decide +kernel
theorem dX11_about_168 : decode cX11_about 168 = .ok (.aload_n 0, 1) := by decide +kernel
theorem dX11_about_169 : decode cX11_about 169 = .ok (.getfield 36, 3) := by decide +kernel
theorem dX11_about_172 : decode cX11_about 172 = .ok (.aload_n 0, 1) := by decide +kernel
theorem dX11_about_173 : decode cX11_about 173 = .ok (.getfield 273, 3) := by decide +kernel
theorem dX11_about_176 : decode cX11_about 176 = .ok (.iaload, 1) := by decide +kernel
theorem dX11_about_177 : decode cX11_about 177 = .ok (.ireturn, 1) := by decide +kernel
theorem dX11_about_178 : decode cX11_about 178 = .ok (.aload_n 0, 1) := by decide +kernel
theorem dX11_about_179 : decode cX11_about 179 = .ok (.getfield 404, 3) := by decide +kernel
theorem dX11_about_182 : decode cX11_about 182 = .ok (.ireturn, 1) := by decide +kernel
theorem dX11_about_183 : decode cX11_about 183 = .ok (.iconst (-1), 1) := by decide +kernel
theorem dX11_about_184 : decode cX11_about 184 = .ok (.ireturn, 1) := by decide +kernel
theorem dX11_feed_0 : decode cX11_feed 0 = .ok (.aload_n 0, 1) := by decide +kernel
theorem dX11_feed_1 : decode cX11_feed 1 = .ok (.getfield 270, 3) := by decide +kernel
theorem dX11_feed_4 : decode cX11_feed 4 = .ok (.bipush 20, 2) := by decide +kernel
theorem dX11_feed_6 : decode cX11_feed 6 = .ok (.iadd, 1) := by decide +kernel
theorem dX11_feed_7 : decode cX11_feed 7 = .ok (.sipush 1600, 3) := by decide +kernel
theorem dX11_feed_10 : decode cX11_feed 10 = .ok (.if_icmp .le 5, 3) := by decide +kernel
theorem dX11_feed_13 : decode cX11_feed 13 = .ok (.iconst (-1), 1) := by decide +kernel
theorem dX11_feed_14 : decode cX11_feed 14 = .ok (.ireturn, 1) := by decide +kernel
theorem dX11_feed_15 : decode cX11_feed 15 = .ok (.iconst 0, 1) := by decide +kernel
theorem dX11_feed_16 : decode cX11_feed 16 = .ok (.istore 6, 2) := by decide +kernel
theorem dX11_feed_18 : decode cX11_feed 18 = .ok (.iload 6, 2) := by decide +kernel
theorem dX11_feed_20 : decode cX11_feed 20 = .ok (.bipush 20, 2) := by decide +kernel
theorem dX11_feed_22 : decode cX11_feed 22 = .ok (.if_icmp .ge 83, 3) := by decide +kernel
theorem dX11_feed_25 : decode cX11_feed 25 = .ok (.iload 6, 2) := by decide +kernel
theorem dX11_feed_27 : decode cX11_feed 27 = .ok (.iconst 4, 1) := by decide +kernel
theorem dX11_feed_28 : decode cX11_feed 28 = .ok (.if_icmp .ge 7, 3) := by decide +kernel
theorem dX11_feed_31 : decode cX11_feed 31 = .ok (.iload_n 1, 1) := by decide +kernel
theorem dX11_feed_32 : decode cX11_feed 32 = .ok (.goto 39, 3) := by decide +kernel
theorem dX11_feed_35 : decode cX11_feed 35 = .ok (.iload 6, 2) := by decide +kernel
theorem dX11_feed_37 : decode cX11_feed 37 = .ok (.bipush 8, 2) := by decide +kernel
theorem dX11_feed_39 : decode cX11_feed 39 = .ok (.if_icmp .ge 7, 3) := by decide +kernel
theorem dX11_feed_42 : decode cX11_feed 42 = .ok (.iload_n 2, 1) := by decide +kernel
theorem dX11_feed_43 : decode cX11_feed 43 = .ok (.goto 28, 3) := by decide +kernel
theorem dX11_feed_46 : decode cX11_feed 46 = .ok (.iload 6, 2) := by decide +kernel
theorem dX11_feed_48 : decode cX11_feed 48 = .ok (.bipush 12, 2) := by decide +kernel
theorem dX11_feed_50 : decode cX11_feed 50 = .ok (.if_icmp .ge 7, 3) := by decide +kernel
theorem dX11_feed_53 : decode cX11_feed 53 = .ok (.iload_n 3, 1) := by decide +kernel
theorem dX11_feed_54 : decode cX11_feed 54 = .ok (.goto 17, 3) := by decide +kernel
theorem dX11_feed_57 : decode cX11_feed 57 = .ok (.iload 6, 2) := by decide +kernel
theorem dX11_feed_59 : decode cX11_feed 59 = .ok (.bipush 16, 2) := by decide +kernel
theorem dX11_feed_61 : decode cX11_feed 61 = .ok (.if_icmp .ge 8, 3) := by decide +kernel
theorem dX11_feed_64 : decode cX11_feed 64 = .ok (.iload 4, 2) := by decide +kernel
theorem dX11_feed_66 : decode cX11_feed 66 = .ok (.goto 5, 3) := by decide +kernel
theorem dX11_feed_69 : decode cX11_feed 69 = .ok (.iload 5, 2) := by decide +kernel
theorem dX11_feed_71 : decode cX11_feed 71 = .ok (.istore 7, 2) := by decide +kernel
theorem dX11_feed_73 : decode cX11_feed 73 = .ok (.aload_n 0, 1) := by decide +kernel
theorem dX11_feed_74 : decode cX11_feed 74 = .ok (.getfield 7, 3) := by decide +kernel
theorem dX11_feed_77 : decode cX11_feed 77 = .ok (.aload_n 0, 1) := by decide +kernel
theorem dX11_feed_78 : decode cX11_feed 78 = .ok (.getfield 270, 3) := by decide +kernel
theorem dX11_feed_81 : decode cX11_feed 81 = .ok (.iload 6, 2) := by decide +kernel
theorem dX11_feed_83 : decode cX11_feed 83 = .ok (.iadd, 1) := by decide +kernel
theorem dX11_feed_84 : decode cX11_feed 84 = .ok (.iload 7, 2) := by decide +kernel
theorem dX11_feed_86 : decode cX11_feed 86 = .ok (.bipush 24, 2) := by decide +kernel
theorem dX11_feed_88 : decode cX11_feed 88 = .ok (.bipush 8, 2) := by decide +kernel
theorem dX11_feed_90 : decode cX11_feed 90 = .ok (.iload 6, 2) := by decide +kernel
theorem dX11_feed_92 : decode cX11_feed 92 = .ok (.iconst 3, 1) := by decide +kernel
theorem dX11_feed_93 : decode cX11_feed 93 = .ok (.iand, 1) := by decide +kernel
theorem dX11_feed_94 : decode cX11_feed 94 = .ok (.imul, 1) := by decide +kernel
theorem dX11_feed_95 : decode cX11_feed 95 = .ok (.isub, 1) := by decide +kernel
theorem dX11_feed_96 : decode cX11_feed 96 = .ok (.ishr, 1) := by decide +kernel
theorem dX11_feed_97 : decode cX11_feed 97 = .ok (.i2b, 1) := by decide +kernel
theorem dX11_feed_98 : decode cX11_feed 98 = .ok (.bastore, 1) := by decide +kernel
theorem dX11_feed_99 : decode cX11_feed 99 = .ok (.iinc 6 1, 3) := by decide +kernel
theorem dX11_feed_102 : decode cX11_feed 102 = .ok (.goto (-84), 3) := by decide +kernel
theorem dX11_feed_105 : decode cX11_feed 105 = .ok (.aload_n 0, 1) := by decide +kernel
theorem dX11_feed_106 : decode cX11_feed 106 = .ok (.dup, 1) := by decide +kernel
theorem dX11_feed_107 : decode cX11_feed 107 = .ok (.getfield 270, 3) := by decide +kernel
theorem dX11_feed_110 : decode cX11_feed 110 = .ok (.bipush 20, 2) := by decide +kernel
theorem dX11_feed_112 : decode cX11_feed 112 = .ok (.iadd, 1) := by decide +kernel
theorem dX11_feed_113 : decode cX11_feed 113 = .ok (.putfield 270, 3) := by decide +kernel
theorem dX11_feed_116 : decode cX11_feed 116 = .ok (.aload_n 0, 1) := by decide +kernel
theorem dX11_feed_117 : decode cX11_feed 117 = .ok (.getfield 270, 3) := by decide +kernel
theorem dX11_feed_120 : decode cX11_feed 120 = .ok (.ireturn, 1) := by decide +kernel
set_option maxRecDepth 100000 in
theorem m_X11_untell (l : Launch) (D : va_G) (cT : Nat → ClassId) (T : Nat → Option Nat) (q : Nat → Int) (hT : tokm T) (hq : qkm q) (a0 : Nat) (t0 : T a0 = some 0) (y1 : Int32) (j1 : IV y1 (-2147483648) 2147483647) : th_Met l D cT T (km q) yX11_untell cX11_untell 2 (some .boolean) (rmk 1 22) [.ref a0, .int y1] (th_R T (some (.inl (0, 1)))) [42] := by
  refine th_start (by decide) (Nat.le_of_ble_eq_true rfl) ?_
  intro p e s m below meth c ls S hK hH hr hlocks hnm hl
  have hx := S.1
  have hb := S.2.1
  have hl : lv_has ls 2 [(0, .ref a0), (1, .int y1)] := hl
  have J23 : ∀ (H : Heap) (locs : List Loc) (ls : Array Slot), th_H D cT T (km q) H → va_S (th_A T [42]) s.heap H locs → lv_has ls 2 [] → W p l e (rmk 1 22) s m [.ref a0, .int y1].toArray below meth c H locs 0 0 (MQ below (th_Q D cT T (km q) (th_R T (some (.inl (0, 1)))) [42]) [.ref a0, .int y1].toArray s 0 0 (th_A T [42])) (F0 m 23 ls []) := by
    intro H locs ls hH hS hl
    refine lv_iconst (v := 0) hx hb dX11_untell_23 (by decide) ?_
    exact th_zret S hK hH hS hr hlocks (iv_w (iv_c (by decide) : IV 0 0 0) (by decide)) (th_R.i (iv_w (iv_c (by decide) : IV 0 0 0) (by decide))) dX11_untell_24
  have J0 : ∀ (H : Heap) (locs : List Loc) (ls : Array Slot), th_H D cT T (km q) H → va_S (th_A T [42]) s.heap H locs → lv_has ls 2 [(0, .ref a0), (1, .int y1)] → W p l e (rmk 1 22) s m [.ref a0, .int y1].toArray below meth c H locs 0 0 (MQ below (th_Q D cT T (km q) (th_R T (some (.inl (0, 1)))) [42]) [.ref a0, .int y1].toArray s 0 0 (th_A T [42])) (F0 m 0 ls []) := by
    intro H locs ls hH hS hl
    refine lv_iload_n hx hb dX11_untell_0 rfl (lv_at hl 1 rfl) ?_
    refine lv_iconst (v := 0) hx hb dX11_untell_1 (by decide) ?_
    refine lv_aload_n hx hb dX11_untell_2 rfl (lv_at hl 0 rfl) ?_
    refine th_get S hK hH inG11 t0 km_0 rfl 65 (by decide) gm_1295 rfl rfl dX11_untell_3 (fun v1 hv1 fv1 => ?_)
    obtain ⟨x2, rfl, ix2⟩ := th_V.int hv1
    refine lv_iconst (v := 1) hx hb dX11_untell_6 (by decide) ?_
    refine lv_isub hx hb dX11_untell_7 ?_
    refine lv_topi (fun x3 ex3 => ?_)
    have ix3 : IV x3 (-1) 29 := by rw [ex3]; exact iv_sub ix2 (iv_c (by decide) : IV 1 1 1) (by decide)
    have ux3 : x3.toInt = x2.toInt - (1 : Int) := by rw [ex3]; exact iv_subE (by have z1 := (ix2).1; have z2 := (ix2).2; have z3 := ((iv_c (by decide) : IV 1 1 1)).1; have z4 := ((iv_c (by decide) : IV 1 1 1)).2; omega)
    refine th_callSp (n := 3) (As := [.int y1, .int 0, .int x3]) S hK hH hS (th_A.sub (by decide)) (m_X11_isIn l D cT T q hT hq (y1) j1 (0) (iv_top _) (x3) (iv_top _)) gm_1618 gm_1616 gm_1617 gm_124 (by decide +kernel) ⟨rfl, rfl, Nat.le_of_ble_eq_true rfl, Nat.le_of_ble_eq_true rfl⟩ rfl hl.1 rfl (Nat.le_of_ble_eq_true rfl) dX11_untell_8 ⟨Nat.zero_le _, Nat.zero_le _⟩ (fun x4 H locs ix4 ox4 hH hS hF1 => ?_)
    obtain ⟨ox4_0, ox4_1⟩ := ox4
    have ox4_0 : x4.toInt ≠ 0 → (0 : Int) ≤ y1.toInt ∧ y1.toInt ≤ x3.toInt := ox4_0
    have ox4_1 : x4.toInt = 0 → y1.toInt < (0 : Int) ∨ x3.toInt < y1.toInt := ox4_1
    refine lv_if_eq (tgt := 23) hx hb dX11_untell_11 (by decide) (fun c5 => ?_) (fun c5 => ?_)
    · skip
      have rlc5 : x4.toInt = (0 : Int) := congrArg Int32.toInt c5
      have ir6 : IV x4 0 0 := iv_eL c5 (iv_c (by decide) : IV 0 0 0)
      have ir6a := ir6.1; have ir6b := ir6.2
      exact J23 H locs ls  hH hS (lv_sub hl [] rfl)
    · skip
      have rlc5 : x4.toInt ≠ (0 : Int) := iv_ne c5
      have ir7 : IV x4 1 1 := iv_cutL ix4 (iv_c (by decide) : IV 0 0 0) c5 (by decide)
      have ir7a := ir7.1; have ir7b := ir7.2
      have ir8 : IV y1 0 29 := ((fun z => by have z1 := iv_ne z; have z2 : x4.toInt ≠ 0 := z1; have z4 := ((iv_c (by decide) : IV 0 0 0)).1; have z5 := (ix3).2; exact ⟨by omega, by omega⟩) : ¬ x4 = 0 → IV y1 0 29) c5
      have ir8a := ir8.1; have ir8b := ir8.2
      refine lv_aload_n hx hb dX11_untell_14 rfl (lv_at hl 0 rfl) ?_
      refine th_get S hK hH inG11 t0 km_0 rfl 64 (by decide) gm_1294 rfl rfl dX11_untell_15 (fun v9 hv9 fv9 => ?_)
      obtain ⟨rf10, rfl, trf10⟩ := th_V.ref hv9
      refine lv_iload_n hx hb dX11_untell_18 rfl (lv_at hl 1 rfl) ?_
      refine th_iald S hK hH trf10 km_42 (th_in (hi := 29) ir8 (by decide)) dX11_untell_19 (fun v11 hv11 => ?_)
      obtain ⟨x12, rfl, ix12⟩ := th_V.int hv11
      refine lv_if_lt (tgt := 25) hx hb dX11_untell_20 (by decide) (fun c13 => ?_) (fun c13 => ?_)
      · skip
        have rlc13 : x12.toInt < (0 : Int) := iv_lt c13
        have ir14 : IV x12 (-2147483648) (-1) := iv_uL ix12 (iv_c (by decide) : IV 0 0 0) (iv_lt c13) (by decide)
        have ir14a := ir14.1; have ir14b := ir14.2
        refine lv_aload_n hx hb dX11_untell_25 rfl (lv_at hl 0 rfl) ?_
        refine th_getK S hK fv9 inG11 rfl (by decide) gm_1294 rfl dX11_untell_26 ?_
        refine lv_iload_n hx hb dX11_untell_29 rfl (lv_at hl 1 rfl) ?_
        refine lv_aload_n hx hb dX11_untell_30 rfl (lv_at hl 0 rfl) ?_
        refine th_get S hK hH inG11 t0 km_0 rfl 66 (by decide) gm_1296 rfl rfl dX11_untell_31 (fun v16 hv16 fv16 => ?_)
        obtain ⟨x17, rfl, ix17⟩ := th_V.int hv16
        have kx17a : q 9 ≤ x17.toInt := ix17.1
        have kx17b : x17.toInt ≤ q 9 := ix17.2
        have ix17 : IV x17 0 100000 := iv_w ix17 (qkm_9 hq)
        refine th_iast S hK hH hS ⟨42, by decide, trf10⟩ trf10 km_42 (th_in (hi := 29) ir8 (by decide)) (th_iv (iv_top _)) dX11_untell_34 (fun H locs hH hS hq1 => ?_)
        have f18 := fv9.kept (hq1 _ (th_ne t0 trf10 (by decide)))
        refine lv_iconst (v := 1) hx hb dX11_untell_35 (by decide) ?_
        exact th_zret S hK hH hS hr hlocks (iv_w (iv_c (by decide) : IV 1 1 1) (by decide)) (th_R.i (iv_w (iv_c (by decide) : IV 1 1 1) (by decide))) dX11_untell_36
      · skip
        have rlc13 : (0 : Int) ≤ x12.toInt := iv_nlt c13
        have ir19 : IV x12 0 2147483647 := iv_vR (iv_c (by decide) : IV 0 0 0) ix12 (iv_nlt c13) (by decide)
        have ir19a := ir19.1; have ir19b := ir19.2
        exact J23 H locs ls  hH hS (lv_sub hl [] rfl)
  exact J0 s.heap [] ls hH va_S.rf hl

set_option maxRecDepth 100000 in
theorem m_X11_later (l : Launch) (D : va_G) (cT : Nat → ClassId) (T : Nat → Option Nat) (q : Nat → Int) (hT : tokm T) (hq : qkm q) (a0 : Nat) (t0 : T a0 = some 0) (y1 : Int32) (j1 : IV y1 (-2147483648) 2147483647) : th_MetM l D cT T q yX11_later cX11_later 2 (some .int) (rmk 1 22) [.ref a0, .int y1] (fun v q2 => ∃ r : Int32, v = some (.int r) ∧ IV r (-1) 100000 ∧ qkm q2 ∧ fr [9] q q2 ∧ ((r.toInt = -1 ∧ q2 9 = q 9 ∧ (y1.toInt < 0 ∨ 1000 < y1.toInt ∨ 100000 < q 9 + y1.toInt)) ∨ (0 ≤ y1.toInt ∧ y1.toInt ≤ 1000 ∧ q 9 + y1.toInt ≤ 100000 ∧ r.toInt = q 9 + y1.toInt ∧ q2 9 = r.toInt))) [0] := by
  refine th_startM (by decide) (Nat.le_of_ble_eq_true rfl) ?_
  intro p e s m below meth c ls S hK hH hr hlocks hnm hl
  have hx := S.1
  have hb := S.2.1
  have hl : lv_has ls 2 [(0, .ref a0), (1, .int y1)] := hl
  have J23 : ∀ (H : Heap) (locs : List Loc) (ls : Array Slot), (y1.toInt < 0 ∨ 1000 < y1.toInt ∨ 100000 < q 9 + y1.toInt) → th_H D cT T (km q) H → va_S (th_A T [0]) s.heap H locs → lv_has ls 2 [] → W p l e (rmk 1 22) s m [.ref a0, .int y1].toArray below meth c H locs 0 0 (MQ below (th_QM D cT T (fun v q2 => ∃ r : Int32, v = some (.int r) ∧ IV r (-1) 100000 ∧ qkm q2 ∧ fr [9] q q2 ∧ ((r.toInt = -1 ∧ q2 9 = q 9 ∧ (y1.toInt < 0 ∨ 1000 < y1.toInt ∨ 100000 < q 9 + y1.toInt)) ∨ (0 ≤ y1.toInt ∧ y1.toInt ≤ 1000 ∧ q 9 + y1.toInt ≤ 100000 ∧ r.toInt = q 9 + y1.toInt ∧ q2 9 = r.toInt))) [0]) [.ref a0, .int y1].toArray s 0 0 (th_A T [0])) (F0 m 23 ls []) := by
    intro H locs ls v23_inv0 hH hS hl
    refine lv_iconst (v := (-1)) hx hb dX11_later_23 (by decide) ?_
    exact th_iretM S hK hH hS hr hlocks ⟨_, rfl, (iv_w (iv_c (by decide) : IV (-1) (-1) (-1)) (by decide)), hq, fr_rf, (show ((-1 : Int) = -1 ∧ q 9 = q 9 ∧ (y1.toInt < 0 ∨ 1000 < y1.toInt ∨ 100000 < q 9 + y1.toInt)) ∨ (0 ≤ y1.toInt ∧ y1.toInt ≤ 1000 ∧ q 9 + y1.toInt ≤ 100000 ∧ (-1 : Int) = q 9 + y1.toInt ∧ q 9 = (-1 : Int)) by omega)⟩ dX11_later_24
  have J0 : ∀ (H : Heap) (locs : List Loc) (ls : Array Slot), th_H D cT T (km q) H → va_S (th_A T [0]) s.heap H locs → lv_has ls 2 [(0, .ref a0), (1, .int y1)] → W p l e (rmk 1 22) s m [.ref a0, .int y1].toArray below meth c H locs 0 0 (MQ below (th_QM D cT T (fun v q2 => ∃ r : Int32, v = some (.int r) ∧ IV r (-1) 100000 ∧ qkm q2 ∧ fr [9] q q2 ∧ ((r.toInt = -1 ∧ q2 9 = q 9 ∧ (y1.toInt < 0 ∨ 1000 < y1.toInt ∨ 100000 < q 9 + y1.toInt)) ∨ (0 ≤ y1.toInt ∧ y1.toInt ≤ 1000 ∧ q 9 + y1.toInt ≤ 100000 ∧ r.toInt = q 9 + y1.toInt ∧ q2 9 = r.toInt))) [0]) [.ref a0, .int y1].toArray s 0 0 (th_A T [0])) (F0 m 0 ls []) := by
    intro H locs ls hH hS hl
    refine lv_iload_n hx hb dX11_later_0 rfl (lv_at hl 1 rfl) ?_
    refine lv_iconst (v := 0) hx hb dX11_later_1 (by decide) ?_
    refine lv_sipush (v := 1000) hx hb dX11_later_2 (by decide) ?_
    refine th_callSp (n := 3) (As := [.int y1, .int 0, .int 1000]) S hK hH hS (th_A.sub (by decide)) (m_X11_isIn l D cT T q hT hq (y1) j1 (0) (iv_top _) (1000) (iv_top _)) gm_1618 gm_1616 gm_1617 gm_124 (by decide +kernel) ⟨rfl, rfl, Nat.le_of_ble_eq_true rfl, Nat.le_of_ble_eq_true rfl⟩ rfl hl.1 rfl (Nat.le_of_ble_eq_true rfl) dX11_later_5 ⟨Nat.zero_le _, Nat.zero_le _⟩ (fun x1 H locs ix1 ox1 hH hS hF1 => ?_)
    obtain ⟨ox1_0, ox1_1⟩ := ox1
    have ox1_0 : x1.toInt ≠ 0 → (0 : Int) ≤ y1.toInt ∧ y1.toInt ≤ (1000 : Int) := ox1_0
    have ox1_1 : x1.toInt = 0 → y1.toInt < (0 : Int) ∨ (1000 : Int) < y1.toInt := ox1_1
    have l1x1 := ix1.1; have l2x1 := ix1.2
    refine lv_if_eq (tgt := 23) hx hb dX11_later_8 (by decide) (fun c2 => ?_) (fun c2 => ?_)
    · skip
      have rlc2 : x1.toInt = (0 : Int) := congrArg Int32.toInt c2
      have ir3 : IV x1 0 0 := iv_eL c2 (iv_c (by decide) : IV 0 0 0)
      have ir3a := ir3.1; have ir3b := ir3.2
      exact J23 H locs ls (show y1.toInt < 0 ∨ 1000 < y1.toInt ∨ 100000 < q 9 + y1.toInt by omega) hH hS (lv_sub hl [] rfl)
    · skip
      have rlc2 : x1.toInt ≠ (0 : Int) := iv_ne c2
      have ir4 : IV x1 1 1 := iv_cutL ix1 (iv_c (by decide) : IV 0 0 0) c2 (by decide)
      have ir4a := ir4.1; have ir4b := ir4.2
      have ir5 : IV y1 0 1000 := ((fun z => by have z1 := iv_ne z; have z2 : x1.toInt ≠ 0 := z1; have z4 := ((iv_c (by decide) : IV 0 0 0)).1; have z5 := ((iv_c (by decide) : IV 1000 1000 1000)).2; exact ⟨by omega, by omega⟩) : ¬ x1 = 0 → IV y1 0 1000) c2
      have ir5a := ir5.1; have ir5b := ir5.2
      refine lv_aload_n hx hb dX11_later_11 rfl (lv_at hl 0 rfl) ?_
      refine th_get S hK hH inG11 t0 km_0 rfl 66 (by decide) gm_1296 rfl rfl dX11_later_12 (fun v6 hv6 fv6 => ?_)
      obtain ⟨x7, rfl, ix7⟩ := th_V.int hv6
      have kx7a : q 9 ≤ x7.toInt := ix7.1
      have kx7b : x7.toInt ≤ q 9 := ix7.2
      have bx7 := qkm_9 hq
      have ix7 : IV x7 0 100000 := iv_w ix7 (qkm_9 hq)
      refine lv_iload_n hx hb dX11_later_15 rfl (lv_at hl 1 rfl) ?_
      refine lv_iadd hx hb dX11_later_16 ?_
      refine lv_topi (fun x8 ex8 => ?_)
      have ix8 : IV x8 0 101000 := by rw [ex8]; exact iv_add ix7 ir5 (by decide)
      have ux8 : x8.toInt = x7.toInt + y1.toInt := by rw [ex8]; exact iv_addE (by have z1 := (ix7).1; have z2 := (ix7).2; have z3 := (ir5).1; have z4 := (ir5).2; omega)
      refine lv_ldcw (v := 100000) hx hb S.2.2.2.1 (S.2.2.2.2 _ gm_1872) dX11_later_17 ?_
      refine lv_icmp_le (tgt := 25) hx hb dX11_later_20 (by decide) (fun c9 => ?_) (fun c9 => ?_)
      · skip
        have rlc9 : x8.toInt ≤ (100000 : Int) := iv_le c9
        have ir10 : IV x8 0 100000 := iv_vL ix8 (iv_c (by decide) : IV 100000 100000 100000) (iv_le c9) (by decide)
        have ir10a := ir10.1; have ir10b := ir10.2
        refine lv_aload_n hx hb dX11_later_25 rfl (lv_at hl 0 rfl) ?_
        refine lv_dup hx hb dX11_later_26 rfl ?_
        refine th_get S hK hH inG11 t0 km_0 rfl 66 (by decide) gm_1296 rfl rfl dX11_later_27 (fun v11 hv11 fv11 => ?_)
        obtain ⟨x12, rfl, ix12⟩ := th_V.int hv11
        have kx12a : q 9 ≤ x12.toInt := ix12.1
        have kx12b : x12.toInt ≤ q 9 := ix12.2
        have bx12 := qkm_9 hq
        have ix12 : IV x12 0 100000 := iv_w ix12 (qkm_9 hq)
        refine lv_iload_n hx hb dX11_later_30 rfl (lv_at hl 1 rfl) ?_
        refine lv_iadd hx hb dX11_later_31 ?_
        refine lv_topi (fun x13 ex13 => ?_)
        have ix13 : IV x13 0 101000 := by rw [ex13]; exact iv_add ix12 ir5 (by decide)
        have ux13 : x13.toInt = x12.toInt + y1.toInt := by rw [ex13]; exact iv_addE (by have z1 := (ix12).1; have z2 := (ix12).2; have z3 := (ir5).1; have z4 := (ir5).2; omega)
        obtain ⟨n15, en15⟩ : ∃ z : Int, z = Int32.toInt x13 := ⟨_, rfl⟩
        refine mput_9 S hK hH hS ⟨0, by decide, t0⟩ hT t0 en15 gm_1296 dX11_later_32 (fun q14 H locs eq14 hH hS hq1 => ?_)
        have hqq14 : qkm q14 := by rw [eq14]; exact qum_ok9 hq (by have z1 := (ix13).1; have z2 := (ix13).2; exact ⟨by omega, by omega⟩)
        have h0q14 : fr [9] q q14 := by rw [eq14]; exact fr_up fr_rf (by decide)
        have wq14_9 : q14 9 = n15 := by rw [eq14]; rfl
        refine lv_aload_n hx hb dX11_later_35 rfl (lv_at hl 0 rfl) ?_
        refine th_get S hK hH inG11 t0 km_0 rfl 66 (by decide) gm_1296 rfl rfl dX11_later_36 (fun v16 hv16 fv16 => ?_)
        obtain ⟨x17, rfl, ix17⟩ := th_V.int hv16
        have kx17a : q14 9 ≤ x17.toInt := ix17.1
        have kx17b : x17.toInt ≤ q14 9 := ix17.2
        have bx17 := qkm_9 hqq14
        have ix17 : IV x17 0 100000 := iv_w ix17 (qkm_9 hqq14)
        exact th_iretM S hK hH hS hr hlocks ⟨_, rfl, (iv_w ix17 (by decide)), hqq14, h0q14, (show (x17.toInt = -1 ∧ q14 9 = q 9 ∧ (y1.toInt < 0 ∨ 1000 < y1.toInt ∨ 100000 < q 9 + y1.toInt)) ∨ (0 ≤ y1.toInt ∧ y1.toInt ≤ 1000 ∧ q 9 + y1.toInt ≤ 100000 ∧ x17.toInt = q 9 + y1.toInt ∧ q14 9 = x17.toInt) by omega)⟩ dX11_later_39
      · skip
        have rlc9 : (100000 : Int) < x8.toInt := iv_nle c9
        have ir18 : IV x8 100001 101000 := iv_uR (iv_c (by decide) : IV 100000 100000 100000) ix8 (iv_nle c9) (by decide)
        have ir18a := ir18.1; have ir18b := ir18.2
        exact J23 H locs ls (show y1.toInt < 0 ∨ 1000 < y1.toInt ∨ 100000 < q 9 + y1.toInt by omega) hH hS (lv_sub hl [] rfl)
  exact J0 s.heap [] ls hH va_S.rf hl

set_option maxRecDepth 100000 in
theorem m_X11_likingsMany (l : Launch) (D : va_G) (cT : Nat → ClassId) (T : Nat → Option Nat) (q : Nat → Int) (hT : tokm T) (hq : qkm q) (a0 : Nat) (t0 : T a0 = some 0) : th_Met l D cT T (km q) yX11_likingsMany cX11_likingsMany 3 (some .int) (rmk 0 0) [.ref a0] (th_R T (some (.inl (-2147483648, 2147483647)))) [] := by
  refine th_start (by decide) (Nat.le_of_ble_eq_true rfl) ?_
  intro p e s m below meth c ls S hK hH hr hlocks hnm hl
  have hx := S.1
  have hb := S.2.1
  have hl : lv_has ls 3 [(0, .ref a0)] := hl
  have J4 : ∀ (n : Nat) (H : Heap) (locs : List Loc) (ls : Array Slot) (v4_1 : Int32) (v4_2 : Int32), IV v4_1 (-2147483648) 2147483647 → IV v4_2 0 3 → th_H D cT T (km q) H → va_S (th_A T []) s.heap H locs → lv_has ls 3 [(0, .ref a0), (1, .int v4_1), (2, .int v4_2)] → (3 + 1 - Int32.toInt v4_2).toNat < n → W p l e (rmk 0 0) s m [.ref a0].toArray below meth c H locs 0 0 (MQ below (th_Q D cT T (km q) (th_R T (some (.inl (-2147483648, 2147483647)))) []) [.ref a0].toArray s 0 0 (th_A T [])) (F0 m 4 ls []) := by
    intro n
    induction n with
    | zero => intro H locs ls v4_1 v4_2 iv4_1 iv4_2 hH hS hl hn; exact absurd hn (Nat.not_lt_zero _)
    | succ n ih4 =>
      intro H locs ls v4_1 v4_2 iv4_1 iv4_2 hH hS hl hn4
      have l1v4_2 := iv4_2.1; have l2v4_2 := iv4_2.2
      refine lv_iload_n hx hb dX11_likingsMany_4 rfl (lv_at hl 2 rfl) ?_
      refine lv_aload_n hx hb dX11_likingsMany_5 rfl (lv_at hl 0 rfl) ?_
      refine th_get S hK hH inG11 t0 km_0 rfl 11 (by decide) gm_1241 rfl rfl dX11_likingsMany_6 (fun v1 hv1 fv1 => ?_)
      obtain ⟨rf2, rfl, trf2⟩ := th_V.ref hv1
      refine lv_aload_n hx hb dX11_likingsMany_9 rfl (lv_at hl 0 rfl) ?_
      refine th_get S hK hH inG11 t0 km_0 rfl 41 (by decide) gm_1271 rfl rfl dX11_likingsMany_10 (fun v3 hv3 fv3 => ?_)
      obtain ⟨x4, rfl, ix4⟩ := th_V.int hv3
      have kx4a : q 10 ≤ x4.toInt := ix4.1
      have kx4b : x4.toInt ≤ q 10 := ix4.2
      have ix4 : IV x4 0 1 := iv_w ix4 (qkm_10 hq)
      refine th_iald S hK hH trf2 km_3 (th_in (hi := 1) ix4 (by decide)) dX11_likingsMany_13 (fun v5 hv5 => ?_)
      obtain ⟨x6, rfl, ix6⟩ := th_bkA hv5 ix4 (by omega)
      have kx6a : q 16 ≤ x6.toInt := ix6.1
      have kx6b : x6.toInt ≤ q 16 := ix6.2
      have ix6 : IV x6 0 3 := iv_w ix6 (qkm_16 hq)
      refine lv_icmp_ge (tgt := 28) hx hb dX11_likingsMany_14 (by decide) (fun c7 => ?_) (fun c7 => ?_)
      · skip
        have rlc7 : x6.toInt ≤ v4_2.toInt := iv_le c7
        refine lv_iload_n hx hb dX11_likingsMany_28 rfl (lv_at hl 1 rfl) ?_
        exact th_iret S hK hH hS hr hlocks (th_R.i iv4_1) dX11_likingsMany_29
      · skip
        have rlc7 : v4_2.toInt < x6.toInt := iv_nle c7
        have ir8 : IV v4_2 0 2 := iv_uL iv4_2 ix6 (iv_nle c7) (by decide)
        have ir8a := ir8.1; have ir8b := ir8.2
        have ir9 : IV x6 1 3 := iv_uR iv4_2 ix6 (iv_nle c7) (by decide)
        have ir9a := ir9.1; have ir9b := ir9.2
        refine lv_iload_n hx hb dX11_likingsMany_17 rfl (lv_at hl 1 rfl) ?_
        refine lv_bipush (v := 6) hx hb dX11_likingsMany_18 (by decide) ?_
        refine lv_imul hx hb dX11_likingsMany_20 ?_
        refine lv_topi (fun x10 ex10 => ?_)
        have ix10 := iv_top x10
        refine lv_istore_n (lv' := [(1, .int x10), (0, .ref a0), (2, .int v4_2)]) hx hb dX11_likingsMany_21 rfl hl (by decide) rfl (fun ls hl => ?_)
        refine th_iinc S dX11_likingsMany_22 hl (k := 2) rfl (by decide) ir8 (by decide) (fun x11 ls ex11 ix11 hl => ?_)
        have hl : lv_has ls 3 [(2, .int x11), (1, .int x10), (0, .ref a0)] := hl
        have ix11 : IV x11 1 3 := ix11
        refine lv_goto (tgt := 4) hx hb dX11_likingsMany_25 (by decide) ?_
        exact ih4 H locs ls x10 x11 ix10 (iv_w ix11 (by decide)) hH hS (lv_sub hl [2, 1, 0] rfl) (th_up iv4_2 ex11 (by decide) hn4)
  have J0 : ∀ (H : Heap) (locs : List Loc) (ls : Array Slot), th_H D cT T (km q) H → va_S (th_A T []) s.heap H locs → lv_has ls 3 [(0, .ref a0)] → W p l e (rmk 0 0) s m [.ref a0].toArray below meth c H locs 0 0 (MQ below (th_Q D cT T (km q) (th_R T (some (.inl (-2147483648, 2147483647)))) []) [.ref a0].toArray s 0 0 (th_A T [])) (F0 m 0 ls []) := by
    intro H locs ls hH hS hl
    refine lv_iconst (v := 1) hx hb dX11_likingsMany_0 (by decide) ?_
    refine lv_istore_n (lv' := [(1, .int 1), (0, .ref a0)]) hx hb dX11_likingsMany_1 rfl hl (by decide) rfl (fun ls hl => ?_)
    refine lv_iconst (v := 0) hx hb dX11_likingsMany_2 (by decide) ?_
    refine lv_istore_n (lv' := [(2, .int 0), (1, .int 1), (0, .ref a0)]) hx hb dX11_likingsMany_3 rfl hl (by decide) rfl (fun ls hl => ?_)
    exact J4 ((3 + 1 - Int32.toInt 0).toNat + 1) H locs ls 1 0 (iv_top _) (iv_w (iv_c (by decide) : IV 0 0 0) (by decide)) hH hS (lv_sub hl [2, 1, 0] rfl) (Nat.lt_succ_self _)
  exact J0 s.heap [] ls hH va_S.rf hl

set_option maxRecDepth 100000 in
theorem m_X11_likingOf (l : Launch) (D : va_G) (cT : Nat → ClassId) (T : Nat → Option Nat) (q : Nat → Int) (hT : tokm T) (hq : qkm q) (y0 : Int32) (j0 : IV y0 (-2147483648) 2147483647) (y1 : Int32) (j1 : IV y1 (-2147483648) 2147483647) : th_Met l D cT T (km q) yX11_likingOf cX11_likingOf 4 (some .int) (rmk 0 0) [.int y0, .int y1] (th_R T (some (.inl (-5, 5)))) [] := by
  refine th_start (by decide) (Nat.le_of_ble_eq_true rfl) ?_
  intro p e s m below meth c ls S hK hH hr hlocks hnm hl
  have hx := S.1
  have hb := S.2.1
  have hl : lv_has ls 4 [(0, .int y0), (1, .int y1)] := hl
  have J4 : ∀ (n : Nat) (H : Heap) (locs : List Loc) (ls : Array Slot) (v4_2 : Int32) (v4_3 : Int32), IV v4_2 (-2147483648) 2147483647 → IV v4_3 0 2147483647 → th_H D cT T (km q) H → va_S (th_A T []) s.heap H locs → lv_has ls 4 [(1, .int y1), (2, .int v4_2), (3, .int v4_3)] → (2147483647 + 1 - Int32.toInt v4_3).toNat < n → W p l e (rmk 0 0) s m [.int y0, .int y1].toArray below meth c H locs 0 0 (MQ below (th_Q D cT T (km q) (th_R T (some (.inl (-5, 5)))) []) [.int y0, .int y1].toArray s 0 0 (th_A T [])) (F0 m 4 ls []) := by
    intro n
    induction n with
    | zero => intro H locs ls v4_2 v4_3 iv4_2 iv4_3 hH hS hl hn; exact absurd hn (Nat.not_lt_zero _)
    | succ n ih4 =>
      intro H locs ls v4_2 v4_3 iv4_2 iv4_3 hH hS hl hn4
      have l1v4_3 := iv4_3.1; have l2v4_3 := iv4_3.2
      refine lv_iload_n hx hb dX11_likingOf_4 rfl (lv_at hl 2 rfl) ?_
      refine lv_iload_n hx hb dX11_likingOf_5 rfl (lv_at hl 0 rfl) ?_
      refine lv_icmp_ge (tgt := 20) hx hb dX11_likingOf_6 (by decide) (fun c1 => ?_) (fun c1 => ?_)
      · skip
        have rlc1 : y1.toInt ≤ v4_3.toInt := iv_le c1
        refine lv_iload_n hx hb dX11_likingOf_20 rfl (lv_at hl 1 rfl) ?_
        refine lv_bipush (v := 6) hx hb dX11_likingOf_21 (by decide) ?_
        refine lv_irem hx hb dX11_likingOf_23 (iv_n0 (iv_c (by decide) : IV 6 6 6) (by decide)) ?_
        refine lv_topi (fun x2 ex2 => ?_)
        have ix2 : IV x2 (-5) 5 := by rw [ex2]; exact iv_rmS (iv_c (by decide) : IV 6 6 6) (by decide)
        exact th_iret S hK hH hS hr hlocks (th_R.i ix2) dX11_likingOf_24
      · skip
        have rlc1 : v4_3.toInt < y1.toInt := iv_nle c1
        have ir3 : IV v4_3 0 2147483646 := iv_uL iv4_3 j1 (iv_nle c1) (by decide)
        have ir3a := ir3.1; have ir3b := ir3.2
        have ir4 : IV y1 1 2147483647 := iv_uR iv4_3 j1 (iv_nle c1) (by decide)
        have ir4a := ir4.1; have ir4b := ir4.2
        refine lv_iload_n hx hb dX11_likingOf_9 rfl (lv_at hl 1 rfl) ?_
        refine lv_bipush (v := 6) hx hb dX11_likingOf_10 (by decide) ?_
        refine lv_idiv hx hb dX11_likingOf_12 (iv_n0 (iv_c (by decide) : IV 6 6 6) (by decide)) ?_
        refine lv_topi (fun x5 ex5 => ?_)
        have ix5 := iv_top x5
        refine lv_istore_n (lv' := [(2, .int x5), (1, .int y1), (3, .int v4_3)]) hx hb dX11_likingOf_13 rfl hl (by decide) rfl (fun ls hl => ?_)
        refine th_iinc S dX11_likingOf_14 hl (k := 2) rfl (by decide) ir3 (by decide) (fun x6 ls ex6 ix6 hl => ?_)
        have hl : lv_has ls 4 [(3, .int x6), (2, .int x5), (1, .int y1)] := hl
        have ix6 : IV x6 1 2147483647 := ix6
        refine lv_goto (tgt := 4) hx hb dX11_likingOf_17 (by decide) ?_
        exact ih4 H locs ls x5 x6 ix5 (iv_w ix6 (by decide)) hH hS (lv_sub hl [2, 1, 0] rfl) (th_up iv4_3 ex6 (by decide) hn4)
  have J0 : ∀ (H : Heap) (locs : List Loc) (ls : Array Slot), th_H D cT T (km q) H → va_S (th_A T []) s.heap H locs → lv_has ls 4 [(0, .int y0), (1, .int y1)] → W p l e (rmk 0 0) s m [.int y0, .int y1].toArray below meth c H locs 0 0 (MQ below (th_Q D cT T (km q) (th_R T (some (.inl (-5, 5)))) []) [.int y0, .int y1].toArray s 0 0 (th_A T [])) (F0 m 0 ls []) := by
    intro H locs ls hH hS hl
    refine lv_iload_n hx hb dX11_likingOf_0 rfl (lv_at hl 0 rfl) ?_
    refine lv_istore_n (lv' := [(2, .int y0), (0, .int y0), (1, .int y1)]) hx hb dX11_likingOf_1 rfl hl (by decide) rfl (fun ls hl => ?_)
    refine lv_iconst (v := 0) hx hb dX11_likingOf_2 (by decide) ?_
    refine lv_istore_n (lv' := [(3, .int 0), (2, .int y0), (0, .int y0), (1, .int y1)]) hx hb dX11_likingOf_3 rfl hl (by decide) rfl (fun ls hl => ?_)
    exact J4 ((2147483647 + 1 - Int32.toInt 0).toNat + 1) H locs ls y0 0 j0 (iv_w (iv_c (by decide) : IV 0 0 0) (by decide)) hH hS (lv_sub hl [3, 1, 0] rfl) (Nat.lt_succ_self _)
  exact J0 s.heap [] ls hH va_S.rf hl

set_option maxRecDepth 100000 in
theorem m_X11_doesFit (l : Launch) (D : va_G) (cT : Nat → ClassId) (T : Nat → Option Nat) (q : Nat → Int) (hT : tokm T) (hq : qkm q) (a0 : Nat) (t0 : T a0 = some 0) (y1 : Int32) (j1 : IV y1 (-2147483648) 2147483647) (y2 : Int32) (j2 : IV y2 (-2147483648) 2147483647) : th_Met l D cT T (km q) yX11_doesFit cX11_doesFit 6 (some .boolean) (rmk 1 23) [.ref a0, .int y1, .int y2] (th_R T (some (.inl (0, 1)))) [] := by
  refine th_start (by decide) (Nat.le_of_ble_eq_true rfl) ?_
  intro p e s m below meth c ls S hK hH hr hlocks hnm hl
  have hx := S.1
  have hb := S.2.1
  have hl : lv_has ls 6 [(0, .ref a0), (1, .int y1), (2, .int y2)] := hl
  have J2 : ∀ (n : Nat) (H : Heap) (locs : List Loc) (ls : Array Slot) (v2_3 : Int32), IV v2_3 0 30 → th_H D cT T (km q) H → va_S (th_A T []) s.heap H locs → lv_has ls 6 [(0, .ref a0), (1, .int y1), (2, .int y2), (3, .int v2_3)] → (30 + 1 - Int32.toInt v2_3).toNat < n → W p l e (rmk 1 23) s m [.ref a0, .int y1, .int y2].toArray below meth c H locs 0 0 (MQ below (th_Q D cT T (km q) (th_R T (some (.inl (0, 1)))) []) [.ref a0, .int y1, .int y2].toArray s 0 0 (th_A T [])) (F0 m 2 ls []) := by
    intro n
    induction n with
    | zero => intro H locs ls v2_3 iv2_3 hH hS hl hn; exact absurd hn (Nat.not_lt_zero _)
    | succ n ih2 =>
      intro H locs ls v2_3 iv2_3 hH hS hl hn2
      have J122 : ∀ (H : Heap) (locs : List Loc) (ls : Array Slot), IV v2_3 0 29 → th_H D cT T (km q) H → va_S (th_A T []) s.heap H locs → lv_has ls 6 [(0, .ref a0), (1, .int y1), (2, .int y2), (3, .int v2_3)] → W p l e (rmk 1 23) s m [.ref a0, .int y1, .int y2].toArray below meth c H locs 0 0 (MQ below (th_Q D cT T (km q) (th_R T (some (.inl (0, 1)))) []) [.ref a0, .int y1, .int y2].toArray s 0 0 (th_A T [])) (F0 m 122 ls []) := by
        intro H locs ls f122_v2_3 hH hS hl
        refine th_iinc S dX11_doesFit_122 hl (k := 3) rfl (by decide) f122_v2_3 (by decide) (fun x1 ls ex1 ix1 hl => ?_)
        have hl : lv_has ls 6 [(3, .int x1), (0, .ref a0), (1, .int y1), (2, .int y2)] := hl
        have ix1 : IV x1 1 30 := ix1
        refine lv_goto (tgt := 2) hx hb dX11_doesFit_125 (by decide) ?_
        exact ih2 H locs ls x1 (iv_w ix1 (by decide)) hH hS (lv_sub hl [1, 2, 3, 0] rfl) (th_up iv2_3 ex1 (by decide) hn2)
      have J107_s0_0 : ∀ (H : Heap) (locs : List Loc) (ls : Array Slot), IV v2_3 0 29 → th_H D cT T (km q) H → va_S (th_A T []) s.heap H locs → lv_has ls 6 [(0, .ref a0), (1, .int y1), (2, .int y2), (3, .int v2_3)] → W p l e (rmk 1 23) s m [.ref a0, .int y1, .int y2].toArray below meth c H locs 0 0 (MQ below (th_Q D cT T (km q) (th_R T (some (.inl (0, 1)))) []) [.ref a0, .int y1, .int y2].toArray s 0 0 (th_A T [])) (F0 m 107 ls [.int 0]) := by
        intro H locs ls f107_v2_3 hH hS hl
        refine lv_istore (lv' := [(5, .int 0), (0, .ref a0), (1, .int y1), (2, .int y2), (3, .int v2_3)]) hx hb dX11_doesFit_107 hl (by decide) rfl (fun ls hl => ?_)
        refine lv_iload hx hb dX11_doesFit_109 (lv_at hl 0 rfl) ?_
        refine lv_aload_n hx hb dX11_doesFit_111 rfl (lv_at hl 1 rfl) ?_
        refine th_get S hK hH inG11 t0 km_0 rfl 62 (by decide) gm_1292 rfl rfl dX11_doesFit_112 (fun v2 hv2 fv2 => ?_)
        obtain ⟨rf3, rfl, trf3⟩ := th_V.ref hv2
        refine lv_iload_n hx hb dX11_doesFit_115 rfl (lv_at hl 4 rfl) ?_
        refine th_iald S hK hH trf3 km_40 (th_in (hi := 29) f107_v2_3 (by decide)) dX11_doesFit_116 (fun v4 hv4 => ?_)
        obtain ⟨x5, rfl, ix5⟩ := th_V.int hv4
        refine lv_icmp_eq (tgt := 122) hx hb dX11_doesFit_117 (by decide) (fun c6 => ?_) (fun c6 => ?_)
        · skip
          have rlc6 : (0 : Int) = x5.toInt := congrArg Int32.toInt c6
          have ir7 : IV x5 0 0 := iv_eR c6 (iv_c (by decide) : IV 0 0 0)
          have ir7a := ir7.1; have ir7b := ir7.2
          exact J122 H locs ls f107_v2_3 hH hS (lv_sub hl [1, 2, 3, 4] rfl)
        · skip
          have rlc6 : (0 : Int) ≠ x5.toInt := iv_ne c6
          refine lv_iconst (v := 0) hx hb dX11_doesFit_120 (by decide) ?_
          exact th_zret S hK hH hS hr hlocks (iv_w (iv_c (by decide) : IV 0 0 0) (by decide)) (th_R.i (iv_w (iv_c (by decide) : IV 0 0 0) (by decide))) dX11_doesFit_121
      have J107_s0_1 : ∀ (H : Heap) (locs : List Loc) (ls : Array Slot), IV v2_3 0 29 → th_H D cT T (km q) H → va_S (th_A T []) s.heap H locs → lv_has ls 6 [(0, .ref a0), (1, .int y1), (2, .int y2), (3, .int v2_3)] → W p l e (rmk 1 23) s m [.ref a0, .int y1, .int y2].toArray below meth c H locs 0 0 (MQ below (th_Q D cT T (km q) (th_R T (some (.inl (0, 1)))) []) [.ref a0, .int y1, .int y2].toArray s 0 0 (th_A T [])) (F0 m 107 ls [.int 1]) := by
        intro H locs ls f107_v2_3 hH hS hl
        refine lv_istore (lv' := [(5, .int 1), (0, .ref a0), (1, .int y1), (2, .int y2), (3, .int v2_3)]) hx hb dX11_doesFit_107 hl (by decide) rfl (fun ls hl => ?_)
        refine lv_iload hx hb dX11_doesFit_109 (lv_at hl 0 rfl) ?_
        refine lv_aload_n hx hb dX11_doesFit_111 rfl (lv_at hl 1 rfl) ?_
        refine th_get S hK hH inG11 t0 km_0 rfl 62 (by decide) gm_1292 rfl rfl dX11_doesFit_112 (fun v8 hv8 fv8 => ?_)
        obtain ⟨rf9, rfl, trf9⟩ := th_V.ref hv8
        refine lv_iload_n hx hb dX11_doesFit_115 rfl (lv_at hl 4 rfl) ?_
        refine th_iald S hK hH trf9 km_40 (th_in (hi := 29) f107_v2_3 (by decide)) dX11_doesFit_116 (fun v10 hv10 => ?_)
        obtain ⟨x11, rfl, ix11⟩ := th_V.int hv10
        refine lv_icmp_eq (tgt := 122) hx hb dX11_doesFit_117 (by decide) (fun c12 => ?_) (fun c12 => ?_)
        · skip
          have rlc12 : (1 : Int) = x11.toInt := congrArg Int32.toInt c12
          have ir13 : IV x11 1 1 := iv_eR c12 (iv_c (by decide) : IV 1 1 1)
          have ir13a := ir13.1; have ir13b := ir13.2
          exact J122 H locs ls f107_v2_3 hH hS (lv_sub hl [1, 2, 3, 4] rfl)
        · skip
          have rlc12 : (1 : Int) ≠ x11.toInt := iv_ne c12
          refine lv_iconst (v := 0) hx hb dX11_doesFit_120 (by decide) ?_
          exact th_zret S hK hH hS hr hlocks (iv_w (iv_c (by decide) : IV 0 0 0) (by decide)) (th_R.i (iv_w (iv_c (by decide) : IV 0 0 0) (by decide))) dX11_doesFit_121
      have J48 : ∀ (n : Nat) (H : Heap) (locs : List Loc) (ls : Array Slot) (v48_4 : Int32) (v48_5 : Int32), IV v48_4 (-2147483648) 2147483647 → IV v48_5 0 3 → IV v2_3 0 29 → th_H D cT T (km q) H → va_S (th_A T []) s.heap H locs → lv_has ls 6 [(0, .ref a0), (1, .int y1), (2, .int y2), (3, .int v2_3), (4, .int v48_4), (5, .int v48_5)] → (3 + 1 - Int32.toInt v48_5).toNat < n → W p l e (rmk 1 23) s m [.ref a0, .int y1, .int y2].toArray below meth c H locs 0 0 (MQ below (th_Q D cT T (km q) (th_R T (some (.inl (0, 1)))) []) [.ref a0, .int y1, .int y2].toArray s 0 0 (th_A T [])) (F0 m 48 ls []) := by
        intro n
        induction n with
        | zero => intro H locs ls v48_4 v48_5 iv48_4 iv48_5 f48_v2_3 hH hS hl hn; exact absurd hn (Nat.not_lt_zero _)
        | succ n ih48 =>
          intro H locs ls v48_4 v48_5 iv48_4 iv48_5 f48_v2_3 hH hS hl hn48
          have l1v48_5 := iv48_5.1; have l2v48_5 := iv48_5.2
          refine lv_iload hx hb dX11_doesFit_48 (lv_at hl 5 rfl) ?_
          refine lv_aload_n hx hb dX11_doesFit_50 rfl (lv_at hl 0 rfl) ?_
          refine th_get S hK hH inG11 t0 km_0 rfl 11 (by decide) gm_1241 rfl rfl dX11_doesFit_51 (fun v14 hv14 fv14 => ?_)
          obtain ⟨rf15, rfl, trf15⟩ := th_V.ref hv14
          refine lv_aload_n hx hb dX11_doesFit_54 rfl (lv_at hl 0 rfl) ?_
          refine th_get S hK hH inG11 t0 km_0 rfl 41 (by decide) gm_1271 rfl rfl dX11_doesFit_55 (fun v16 hv16 fv16 => ?_)
          obtain ⟨x17, rfl, ix17⟩ := th_V.int hv16
          have kx17a : q 10 ≤ x17.toInt := ix17.1
          have kx17b : x17.toInt ≤ q 10 := ix17.2
          have ix17 : IV x17 0 1 := iv_w ix17 (qkm_10 hq)
          refine th_iald S hK hH trf15 km_3 (th_in (hi := 1) ix17 (by decide)) dX11_doesFit_58 (fun v18 hv18 => ?_)
          obtain ⟨x19, rfl, ix19⟩ := th_bkA hv18 ix17 (by omega)
          have kx19a : q 16 ≤ x19.toInt := ix19.1
          have kx19b : x19.toInt ≤ q 16 := ix19.2
          have ix19 : IV x19 0 3 := iv_w ix19 (qkm_16 hq)
          refine lv_icmp_ge (tgt := 91) hx hb dX11_doesFit_59 (by decide) (fun c20 => ?_) (fun c20 => ?_)
          · skip
            have rlc20 : x19.toInt ≤ v48_5.toInt := iv_le c20
            refine lv_iload hx hb dX11_doesFit_91 (lv_at hl 4 rfl) ?_
            refine lv_aload_n hx hb dX11_doesFit_93 rfl (lv_at hl 0 rfl) ?_
            refine th_get S hK hH inG11 t0 km_0 rfl 61 (by decide) gm_1291 rfl rfl dX11_doesFit_94 (fun v21 hv21 fv21 => ?_)
            obtain ⟨rf22, rfl, trf22⟩ := th_V.ref hv21
            refine lv_iload_n hx hb dX11_doesFit_97 rfl (lv_at hl 3 rfl) ?_
            refine th_iald S hK hH trf22 km_39 (th_in (hi := 29) f48_v2_3 (by decide)) dX11_doesFit_98 (fun v23 hv23 => ?_)
            obtain ⟨x24, rfl, ix24⟩ := th_V.int hv23
            refine lv_icmp_lt (tgt := 106) hx hb dX11_doesFit_99 (by decide) (fun c25 => ?_) (fun c25 => ?_)
            · skip
              have rlc25 : v48_4.toInt < x24.toInt := iv_lt c25
              have ir26 : IV v48_4 (-2147483648) 2147483646 := iv_uL iv48_4 ix24 (iv_lt c25) (by decide)
              have ir26a := ir26.1; have ir26b := ir26.2
              have ir27 : IV x24 (-2147483647) 2147483647 := iv_uR iv48_4 ix24 (iv_lt c25) (by decide)
              have ir27a := ir27.1; have ir27b := ir27.2
              refine lv_iconst (v := 0) hx hb dX11_doesFit_106 (by decide) ?_
              exact J107_s0_0 H locs ls f48_v2_3 hH hS (lv_sub hl [0, 1, 2, 3] rfl)
            · skip
              have rlc25 : x24.toInt ≤ v48_4.toInt := iv_nlt c25
              refine lv_iconst (v := 1) hx hb dX11_doesFit_102 (by decide) ?_
              refine lv_goto (tgt := 107) hx hb dX11_doesFit_103 (by decide) ?_
              exact J107_s0_1 H locs ls f48_v2_3 hH hS (lv_sub hl [0, 1, 2, 3] rfl)
          · skip
            have rlc20 : v48_5.toInt < x19.toInt := iv_nle c20
            have ir28 : IV v48_5 0 2 := iv_uL iv48_5 ix19 (iv_nle c20) (by decide)
            have ir28a := ir28.1; have ir28b := ir28.2
            have ir29 : IV x19 1 3 := iv_uR iv48_5 ix19 (iv_nle c20) (by decide)
            have ir29a := ir29.1; have ir29b := ir29.2
            refine lv_iload hx hb dX11_doesFit_62 (lv_at hl 4 rfl) ?_
            refine lv_aload_n hx hb dX11_doesFit_64 rfl (lv_at hl 0 rfl) ?_
            refine th_get S hK hH inG11 t0 km_0 rfl 60 (by decide) gm_1290 rfl rfl dX11_doesFit_65 (fun v30 hv30 fv30 => ?_)
            obtain ⟨rf31, rfl, trf31⟩ := th_V.ref hv30
            refine lv_iconst (v := 3) hx hb dX11_doesFit_68 (by decide) ?_
            refine lv_iload_n hx hb dX11_doesFit_69 rfl (lv_at hl 3 rfl) ?_
            refine lv_imul hx hb dX11_doesFit_70 ?_
            refine lv_topi (fun x32 ex32 => ?_)
            have ix32 : IV x32 0 87 := by rw [ex32]; exact iv_mul (iv_c (by decide) : IV 3 3 3) f48_v2_3 (by decide) (by decide)
            have ux32 : x32.toInt = (3 : Int) * v2_3.toInt := by rw [ex32]; exact iv_mulE (iv_corner ((iv_c (by decide) : IV 3 3 3)).1 ((iv_c (by decide) : IV 3 3 3)).2 (f48_v2_3).1 (f48_v2_3).2 (by decide))
            refine lv_iload hx hb dX11_doesFit_71 (lv_at hl 5 rfl) ?_
            refine lv_iadd hx hb dX11_doesFit_73 ?_
            refine lv_topi (fun x33 ex33 => ?_)
            have ix33 : IV x33 0 89 := by rw [ex33]; exact iv_add ix32 ir28 (by decide)
            have ux33 : x33.toInt = x32.toInt + v48_5.toInt := by rw [ex33]; exact iv_addE (by have z1 := (ix32).1; have z2 := (ix32).2; have z3 := (ir28).1; have z4 := (ir28).2; omega)
            refine th_iald S hK hH trf31 km_38 (th_in (hi := 89) ix33 (by decide)) dX11_doesFit_74 (fun v34 hv34 => ?_)
            obtain ⟨x35, rfl, ix35⟩ := th_V.int hv34
            refine lv_iload_n hx hb dX11_doesFit_75 rfl (lv_at hl 1 rfl) ?_
            refine lv_iload hx hb dX11_doesFit_76 (lv_at hl 5 rfl) ?_
            refine th_callSi (n := 2) (As := [.int y1, .int v48_5]) S hK hH hS (th_A.sub (by decide)) (m_X11_likingOf l D cT T q hT hq (y1) j1 (v48_5) (iv_top _)) gm_1887 gm_1885 gm_1886 gm_124 (by decide +kernel) ⟨rfl, rfl, Nat.le_of_ble_eq_true rfl, Nat.le_of_ble_eq_true rfl⟩ rfl hl.1 rfl (Nat.le_of_ble_eq_true rfl) dX11_doesFit_78 ⟨Nat.zero_le _, Nat.zero_le _⟩ (fun x36 H locs ix36 hH hS hF1 => ?_)
            refine lv_imul hx hb dX11_doesFit_81 ?_
            refine lv_topi (fun x37 ex37 => ?_)
            have ix37 := iv_top x37
            refine lv_iadd hx hb dX11_doesFit_82 ?_
            refine lv_topi (fun x38 ex38 => ?_)
            have ix38 := iv_top x38
            refine lv_istore (lv' := [(4, .int x38), (0, .ref a0), (1, .int y1), (2, .int y2), (3, .int v2_3), (5, .int v48_5)]) hx hb dX11_doesFit_83 hl (by decide) rfl (fun ls hl => ?_)
            refine th_iinc S dX11_doesFit_85 hl (k := 5) rfl (by decide) ir28 (by decide) (fun x39 ls ex39 ix39 hl => ?_)
            have hl : lv_has ls 6 [(5, .int x39), (4, .int x38), (0, .ref a0), (1, .int y1), (2, .int y2), (3, .int v2_3)] := hl
            have ix39 : IV x39 1 3 := ix39
            refine lv_goto (tgt := 48) hx hb dX11_doesFit_88 (by decide) ?_
            exact ih48 H locs ls x38 x39 ix38 (iv_w ix39 (by decide)) f48_v2_3 hH hS (lv_sub hl [2, 3, 4, 5, 1, 0] rfl) (th_up iv48_5 ex39 (by decide) hn48)
      have J42 : ∀ (H : Heap) (locs : List Loc) (ls : Array Slot), IV v2_3 0 29 → th_H D cT T (km q) H → va_S (th_A T []) s.heap H locs → lv_has ls 6 [(0, .ref a0), (1, .int y1), (2, .int y2), (3, .int v2_3)] → W p l e (rmk 1 23) s m [.ref a0, .int y1, .int y2].toArray below meth c H locs 0 0 (MQ below (th_Q D cT T (km q) (th_R T (some (.inl (0, 1)))) []) [.ref a0, .int y1, .int y2].toArray s 0 0 (th_A T [])) (F0 m 42 ls []) := by
        intro H locs ls f42_v2_3 hH hS hl
        refine lv_iconst (v := 0) hx hb dX11_doesFit_42 (by decide) ?_
        refine lv_istore (lv' := [(4, .int 0), (0, .ref a0), (1, .int y1), (2, .int y2), (3, .int v2_3)]) hx hb dX11_doesFit_43 hl (by decide) rfl (fun ls hl => ?_)
        refine lv_iconst (v := 0) hx hb dX11_doesFit_45 (by decide) ?_
        refine lv_istore (lv' := [(5, .int 0), (4, .int 0), (0, .ref a0), (1, .int y1), (2, .int y2), (3, .int v2_3)]) hx hb dX11_doesFit_46 hl (by decide) rfl (fun ls hl => ?_)
        exact J48 ((3 + 1 - Int32.toInt 0).toNat + 1) H locs ls 0 0 (iv_top _) (iv_w (iv_c (by decide) : IV 0 0 0) (by decide)) f42_v2_3 hH hS (lv_sub hl [2, 3, 4, 5, 1, 0] rfl) (Nat.lt_succ_self _)
      have l1v2_3 := iv2_3.1; have l2v2_3 := iv2_3.2
      refine lv_iload_n hx hb dX11_doesFit_2 rfl (lv_at hl 3 rfl) ?_
      refine lv_aload_n hx hb dX11_doesFit_3 rfl (lv_at hl 0 rfl) ?_
      refine th_get S hK hH inG11 t0 km_0 rfl 65 (by decide) gm_1295 rfl rfl dX11_doesFit_4 (fun v40 hv40 fv40 => ?_)
      obtain ⟨x41, rfl, ix41⟩ := th_V.int hv40
      refine lv_icmp_ge (tgt := 128) hx hb dX11_doesFit_7 (by decide) (fun c42 => ?_) (fun c42 => ?_)
      · skip
        have rlc42 : x41.toInt ≤ v2_3.toInt := iv_le c42
        refine lv_iconst (v := 1) hx hb dX11_doesFit_128 (by decide) ?_
        exact th_zret S hK hH hS hr hlocks (iv_w (iv_c (by decide) : IV 1 1 1) (by decide)) (th_R.i (iv_w (iv_c (by decide) : IV 1 1 1) (by decide))) dX11_doesFit_129
      · skip
        have rlc42 : v2_3.toInt < x41.toInt := iv_nle c42
        have ir43 : IV v2_3 0 29 := iv_uL iv2_3 ix41 (iv_nle c42) (by decide)
        have ir43a := ir43.1; have ir43b := ir43.2
        have ir44 : IV x41 1 30 := iv_uR iv2_3 ix41 (iv_nle c42) (by decide)
        have ir44a := ir44.1; have ir44b := ir44.2
        refine lv_aload_n hx hb dX11_doesFit_10 rfl (lv_at hl 0 rfl) ?_
        refine th_get S hK hH inG11 t0 km_0 rfl 63 (by decide) gm_1293 rfl rfl dX11_doesFit_11 (fun v45 hv45 fv45 => ?_)
        obtain ⟨rf46, rfl, trf46⟩ := th_V.ref hv45
        refine lv_iload_n hx hb dX11_doesFit_14 rfl (lv_at hl 3 rfl) ?_
        refine th_iald S hK hH trf46 km_41 (th_in (hi := 29) ir43 (by decide)) dX11_doesFit_15 (fun v47 hv47 => ?_)
        obtain ⟨x48, rfl, ix48⟩ := th_V.int hv47
        refine lv_iload_n hx hb dX11_doesFit_16 rfl (lv_at hl 2 rfl) ?_
        refine lv_icmp_gt (tgt := 122) hx hb dX11_doesFit_17 (by decide) (fun c49 => ?_) (fun c49 => ?_)
        · skip
          have rlc49 : y2.toInt < x48.toInt := iv_lt c49
          have ir50 : IV y2 (-2147483648) 2147483646 := iv_uL j2 ix48 (iv_lt c49) (by decide)
          have ir50a := ir50.1; have ir50b := ir50.2
          have ir51 : IV x48 (-2147483647) 2147483647 := iv_uR j2 ix48 (iv_lt c49) (by decide)
          have ir51a := ir51.1; have ir51b := ir51.2
          exact J122 H locs ls ir43 hH hS (lv_sub hl [0, 1, 2, 3] rfl)
        · skip
          have rlc49 : x48.toInt ≤ y2.toInt := iv_nlt c49
          refine lv_aload_n hx hb dX11_doesFit_20 rfl (lv_at hl 0 rfl) ?_
          refine th_get S hK hH inG11 t0 km_0 rfl 64 (by decide) gm_1294 rfl rfl dX11_doesFit_21 (fun v52 hv52 fv52 => ?_)
          obtain ⟨rf53, rfl, trf53⟩ := th_V.ref hv52
          refine lv_iload_n hx hb dX11_doesFit_24 rfl (lv_at hl 3 rfl) ?_
          refine th_iald S hK hH trf53 km_42 (th_in (hi := 29) ir43 (by decide)) dX11_doesFit_25 (fun v54 hv54 => ?_)
          obtain ⟨x55, rfl, ix55⟩ := th_V.int hv54
          refine lv_if_lt (tgt := 42) hx hb dX11_doesFit_26 (by decide) (fun c56 => ?_) (fun c56 => ?_)
          · skip
            have rlc56 : x55.toInt < (0 : Int) := iv_lt c56
            have ir57 : IV x55 (-2147483648) (-1) := iv_uL ix55 (iv_c (by decide) : IV 0 0 0) (iv_lt c56) (by decide)
            have ir57a := ir57.1; have ir57b := ir57.2
            exact J42 H locs ls ir43 hH hS (lv_sub hl [0, 1, 2, 3] rfl)
          · skip
            have rlc56 : (0 : Int) ≤ x55.toInt := iv_nlt c56
            have ir58 : IV x55 0 2147483647 := iv_vR (iv_c (by decide) : IV 0 0 0) ix55 (iv_nlt c56) (by decide)
            have ir58a := ir58.1; have ir58b := ir58.2
            refine lv_aload_n hx hb dX11_doesFit_29 rfl (lv_at hl 0 rfl) ?_
            refine th_getK S hK fv52 inG11 rfl (by decide) gm_1294 rfl dX11_doesFit_30 ?_
            refine lv_iload_n hx hb dX11_doesFit_33 rfl (lv_at hl 3 rfl) ?_
            refine th_iald S hK hH trf53 km_42 (th_in (hi := 29) ir43 (by decide)) dX11_doesFit_34 (fun v60 hv60 => ?_)
            obtain ⟨x61, rfl, ix61⟩ := th_V.int hv60
            refine lv_iload_n hx hb dX11_doesFit_35 rfl (lv_at hl 2 rfl) ?_
            refine lv_icmp_gt (tgt := 42) hx hb dX11_doesFit_36 (by decide) (fun c62 => ?_) (fun c62 => ?_)
            · skip
              have rlc62 : y2.toInt < x61.toInt := iv_lt c62
              have ir63 : IV y2 (-2147483648) 2147483646 := iv_uL j2 ix61 (iv_lt c62) (by decide)
              have ir63a := ir63.1; have ir63b := ir63.2
              have ir64 : IV x61 (-2147483647) 2147483647 := iv_uR j2 ix61 (iv_lt c62) (by decide)
              have ir64a := ir64.1; have ir64b := ir64.2
              exact J42 H locs ls ir43 hH hS (lv_sub hl [0, 1, 2, 3] rfl)
            · skip
              have rlc62 : x61.toInt ≤ y2.toInt := iv_nlt c62
              refine lv_goto (tgt := 122) hx hb dX11_doesFit_39 (by decide) ?_
              exact J122 H locs ls ir43 hH hS (lv_sub hl [0, 1, 2, 3] rfl)
  have J0 : ∀ (H : Heap) (locs : List Loc) (ls : Array Slot), th_H D cT T (km q) H → va_S (th_A T []) s.heap H locs → lv_has ls 6 [(0, .ref a0), (1, .int y1), (2, .int y2)] → W p l e (rmk 1 23) s m [.ref a0, .int y1, .int y2].toArray below meth c H locs 0 0 (MQ below (th_Q D cT T (km q) (th_R T (some (.inl (0, 1)))) []) [.ref a0, .int y1, .int y2].toArray s 0 0 (th_A T [])) (F0 m 0 ls []) := by
    intro H locs ls hH hS hl
    refine lv_iconst (v := 0) hx hb dX11_doesFit_0 (by decide) ?_
    refine lv_istore_n (lv' := [(3, .int 0), (0, .ref a0), (1, .int y1), (2, .int y2)]) hx hb dX11_doesFit_1 rfl hl (by decide) rfl (fun ls hl => ?_)
    exact J2 ((30 + 1 - Int32.toInt 0).toNat + 1) H locs ls 0 (iv_w (iv_c (by decide) : IV 0 0 0) (by decide)) hH hS (lv_sub hl [1, 2, 3, 0] rfl) (Nat.lt_succ_self _)
  exact J0 s.heap [] ls hH va_S.rf hl

set_option maxRecDepth 100000 in
theorem m_X11_fit (l : Launch) (D : va_G) (cT : Nat → ClassId) (T : Nat → Option Nat) (q : Nat → Int) (hT : tokm T) (hq : qkm q) (a0 : Nat) (t0 : T a0 = some 0) (y1 : Int32) (j1 : IV y1 (-2147483648) 2147483647) : th_Met l D cT T (km q) yX11_fit cX11_fit 4 (some .int) (rmk 2 48) [.ref a0, .int y1] (th_R T (some (.inl (-2147483648, 2147483647)))) [] := by
  refine th_start (by decide) (Nat.le_of_ble_eq_true rfl) ?_
  intro p e s m below meth c ls S hK hH hr hlocks hnm hl
  have hx := S.1
  have hb := S.2.1
  have hl : lv_has ls 4 [(0, .ref a0), (1, .int y1)] := hl
  have J4 : ∀ (n : Nat) (H : Heap) (locs : List Loc) (ls : Array Slot) (v4_2 : Int32) (v4_3 : Int32), IV v4_2 (-2147483648) 2147483647 → IV v4_3 0 2147483647 → th_H D cT T (km q) H → va_S (th_A T []) s.heap H locs → lv_has ls 4 [(0, .ref a0), (1, .int y1), (2, .int v4_2), (3, .int v4_3)] → (2147483647 + 1 - Int32.toInt v4_3).toNat < n → W p l e (rmk 2 48) s m [.ref a0, .int y1].toArray below meth c H locs 0 0 (MQ below (th_Q D cT T (km q) (th_R T (some (.inl (-2147483648, 2147483647)))) []) [.ref a0, .int y1].toArray s 0 0 (th_A T [])) (F0 m 4 ls []) := by
    intro n
    induction n with
    | zero => intro H locs ls v4_2 v4_3 iv4_2 iv4_3 hH hS hl hn; exact absurd hn (Nat.not_lt_zero _)
    | succ n ih4 =>
      intro H locs ls v4_2 v4_3 iv4_2 iv4_3 hH hS hl hn4
      have J27_s1_0 : ∀ (H : Heap) (locs : List Loc) (ls : Array Slot), IV v4_3 0 2147483646 → th_H D cT T (km q) H → va_S (th_A T []) s.heap H locs → lv_has ls 4 [(0, .ref a0), (1, .int y1), (3, .int v4_3)] → W p l e (rmk 2 48) s m [.ref a0, .int y1].toArray below meth c H locs 0 0 (MQ below (th_Q D cT T (km q) (th_R T (some (.inl (-2147483648, 2147483647)))) []) [.ref a0, .int y1].toArray s 0 0 (th_A T [])) (F0 m 27 ls [.int 0, .int v4_2]) := by
        intro H locs ls f27_v4_3 hH hS hl
        refine lv_iadd hx hb dX11_fit_27 ?_
        refine lv_topi (fun x1 ex1 => ?_)
        have ix1 : IV x1 (-2147483648) 2147483647 := by rw [ex1]; exact iv_add iv4_2 (iv_c (by decide) : IV 0 0 0) (by decide)
        have ux1 : x1.toInt = v4_2.toInt + (0 : Int) := by rw [ex1]; exact iv_addE (by have z1 := (iv4_2).1; have z2 := (iv4_2).2; have z3 := ((iv_c (by decide) : IV 0 0 0)).1; have z4 := ((iv_c (by decide) : IV 0 0 0)).2; omega)
        refine lv_istore_n (lv' := [(2, .int x1), (0, .ref a0), (1, .int y1), (3, .int v4_3)]) hx hb dX11_fit_28 rfl hl (by decide) rfl (fun ls hl => ?_)
        refine th_iinc S dX11_fit_29 hl (k := 3) rfl (by decide) f27_v4_3 (by decide) (fun x2 ls ex2 ix2 hl => ?_)
        have hl : lv_has ls 4 [(3, .int x2), (2, .int x1), (0, .ref a0), (1, .int y1)] := hl
        have ix2 : IV x2 1 2147483647 := ix2
        refine lv_goto (tgt := 4) hx hb dX11_fit_32 (by decide) ?_
        exact ih4 H locs ls x1 x2 ix1 (iv_w ix2 (by decide)) hH hS (lv_sub hl [2, 3, 1, 0] rfl) (th_up iv4_3 ex2 (by decide) hn4)
      have J27_s1_1 : ∀ (H : Heap) (locs : List Loc) (ls : Array Slot), IV v4_3 0 2147483646 → th_H D cT T (km q) H → va_S (th_A T []) s.heap H locs → lv_has ls 4 [(0, .ref a0), (1, .int y1), (3, .int v4_3)] → W p l e (rmk 2 48) s m [.ref a0, .int y1].toArray below meth c H locs 0 0 (MQ below (th_Q D cT T (km q) (th_R T (some (.inl (-2147483648, 2147483647)))) []) [.ref a0, .int y1].toArray s 0 0 (th_A T [])) (F0 m 27 ls [.int 1, .int v4_2]) := by
        intro H locs ls f27_v4_3 hH hS hl
        refine lv_iadd hx hb dX11_fit_27 ?_
        refine lv_topi (fun x3 ex3 => ?_)
        have ix3 := iv_top x3
        refine lv_istore_n (lv' := [(2, .int x3), (0, .ref a0), (1, .int y1), (3, .int v4_3)]) hx hb dX11_fit_28 rfl hl (by decide) rfl (fun ls hl => ?_)
        refine th_iinc S dX11_fit_29 hl (k := 3) rfl (by decide) f27_v4_3 (by decide) (fun x4 ls ex4 ix4 hl => ?_)
        have hl : lv_has ls 4 [(3, .int x4), (2, .int x3), (0, .ref a0), (1, .int y1)] := hl
        have ix4 : IV x4 1 2147483647 := ix4
        refine lv_goto (tgt := 4) hx hb dX11_fit_32 (by decide) ?_
        exact ih4 H locs ls x3 x4 ix3 (iv_w ix4 (by decide)) hH hS (lv_sub hl [2, 3, 1, 0] rfl) (th_up iv4_3 ex4 (by decide) hn4)
      have l1v4_3 := iv4_3.1; have l2v4_3 := iv4_3.2
      refine lv_iload_n hx hb dX11_fit_4 rfl (lv_at hl 3 rfl) ?_
      refine lv_aload_n hx hb dX11_fit_5 rfl (lv_at hl 0 rfl) ?_
      refine th_callVi (n := 0) (As := []) S hK hH hS (th_A.sub (by decide)) (m_X11_likingsMany l D cT T q hT hq a0 t0) gm_1880 gm_1877 gm_1879 gm_109 gm_124 (by decide +kernel) ⟨rfl, rfl, Nat.le_of_ble_eq_true rfl, Nat.le_of_ble_eq_true rfl⟩ t0 km_0 rfl rfl hl.1 rfl (Nat.le_of_ble_eq_true rfl) dX11_fit_6 ⟨Nat.zero_le _, Nat.zero_le _⟩ (fun x5 H locs ix5 hH hS hF1 => ?_)
      refine lv_icmp_ge (tgt := 35) hx hb dX11_fit_9 (by decide) (fun c6 => ?_) (fun c6 => ?_)
      · skip
        have rlc6 : x5.toInt ≤ v4_3.toInt := iv_le c6
        refine lv_iload_n hx hb dX11_fit_35 rfl (lv_at hl 2 rfl) ?_
        exact th_iret S hK hH hS hr hlocks (th_R.i iv4_2) dX11_fit_36
      · skip
        have rlc6 : v4_3.toInt < x5.toInt := iv_nle c6
        have ir7 : IV v4_3 0 2147483646 := iv_uL iv4_3 ix5 (iv_nle c6) (by decide)
        have ir7a := ir7.1; have ir7b := ir7.2
        have ir8 : IV x5 1 2147483647 := iv_uR iv4_3 ix5 (iv_nle c6) (by decide)
        have ir8a := ir8.1; have ir8b := ir8.2
        refine lv_iload_n hx hb dX11_fit_12 rfl (lv_at hl 2 rfl) ?_
        refine lv_aload_n hx hb dX11_fit_13 rfl (lv_at hl 0 rfl) ?_
        refine lv_iload_n hx hb dX11_fit_14 rfl (lv_at hl 3 rfl) ?_
        refine lv_iload_n hx hb dX11_fit_15 rfl (lv_at hl 1 rfl) ?_
        refine th_callVi (n := 2) (As := [.int v4_3, .int y1]) S hK hH hS (th_A.sub (by decide)) (m_X11_doesFit l D cT T q hT hq a0 t0 (v4_3) (iv_top _) (y1) j1) gm_1884 gm_1881 gm_1883 gm_110 gm_124 (by decide +kernel) ⟨rfl, rfl, Nat.le_of_ble_eq_true rfl, Nat.le_of_ble_eq_true rfl⟩ t0 km_0 rfl rfl hl.1 rfl (Nat.le_of_ble_eq_true rfl) dX11_fit_16 ⟨Nat.zero_le _, Nat.zero_le _⟩ (fun x9 H locs ix9 hH hS hF1 => ?_)
        refine lv_if_eq (tgt := 26) hx hb dX11_fit_19 (by decide) (fun c10 => ?_) (fun c10 => ?_)
        · skip
          have rlc10 : x9.toInt = (0 : Int) := congrArg Int32.toInt c10
          have ir11 : IV x9 0 0 := iv_eL c10 (iv_c (by decide) : IV 0 0 0)
          have ir11a := ir11.1; have ir11b := ir11.2
          refine lv_iconst (v := 0) hx hb dX11_fit_26 (by decide) ?_
          exact J27_s1_0 H locs ls ir7 hH hS (lv_sub hl [0, 1, 3] rfl)
        · skip
          have rlc10 : x9.toInt ≠ (0 : Int) := iv_ne c10
          have ir12 : IV x9 1 1 := iv_cutL ix9 (iv_c (by decide) : IV 0 0 0) c10 (by decide)
          have ir12a := ir12.1; have ir12b := ir12.2
          refine lv_iconst (v := 1) hx hb dX11_fit_22 (by decide) ?_
          refine lv_goto (tgt := 27) hx hb dX11_fit_23 (by decide) ?_
          exact J27_s1_1 H locs ls ir7 hH hS (lv_sub hl [0, 1, 3] rfl)
  have J0 : ∀ (H : Heap) (locs : List Loc) (ls : Array Slot), th_H D cT T (km q) H → va_S (th_A T []) s.heap H locs → lv_has ls 4 [(0, .ref a0), (1, .int y1)] → W p l e (rmk 2 48) s m [.ref a0, .int y1].toArray below meth c H locs 0 0 (MQ below (th_Q D cT T (km q) (th_R T (some (.inl (-2147483648, 2147483647)))) []) [.ref a0, .int y1].toArray s 0 0 (th_A T [])) (F0 m 0 ls []) := by
    intro H locs ls hH hS hl
    refine lv_iconst (v := 0) hx hb dX11_fit_0 (by decide) ?_
    refine lv_istore_n (lv' := [(2, .int 0), (0, .ref a0), (1, .int y1)]) hx hb dX11_fit_1 rfl hl (by decide) rfl (fun ls hl => ?_)
    refine lv_iconst (v := 0) hx hb dX11_fit_2 (by decide) ?_
    refine lv_istore_n (lv' := [(3, .int 0), (2, .int 0), (0, .ref a0), (1, .int y1)]) hx hb dX11_fit_3 rfl hl (by decide) rfl (fun ls hl => ?_)
    exact J4 ((2147483647 + 1 - Int32.toInt 0).toNat + 1) H locs ls 0 0 (iv_top _) (iv_w (iv_c (by decide) : IV 0 0 0) (by decide)) hH hS (lv_sub hl [2, 3, 1, 0] rfl) (Nat.lt_succ_self _)
  exact J0 s.heap [] ls hH va_S.rf hl

set_option maxRecDepth 100000 in
theorem m_X11_sure (l : Launch) (D : va_G) (cT : Nat → ClassId) (T : Nat → Option Nat) (q : Nat → Int) (hT : tokm T) (hq : qkm q) (a0 : Nat) (t0 : T a0 = some 0) (y1 : Int32) (j1 : IV y1 (-2147483648) 2147483647) (y2 : Int32) (j2 : IV y2 (-2147483648) 2147483647) : th_Met l D cT T (km q) yX11_sure cX11_sure 5 (some .int) (rmk 2 48) [.ref a0, .int y1, .int y2] (th_R T (some (.inl (-5, 5)))) [] := by
  refine th_start (by decide) (Nat.le_of_ble_eq_true rfl) ?_
  intro p e s m below meth c ls S hK hH hr hlocks hnm hl
  have hx := S.1
  have hb := S.2.1
  have hl : lv_has ls 5 [(0, .ref a0), (1, .int y1), (2, .int y2)] := hl
  have J15 : ∀ (n : Nat) (H : Heap) (locs : List Loc) (ls : Array Slot) (v15_3 : Int32) (v15_4 : Int32), IV v15_3 (-5) 5 → IV v15_4 0 2147483647 → IV y1 0 2 → th_H D cT T (km q) H → va_S (th_A T []) s.heap H locs → lv_has ls 5 [(0, .ref a0), (1, .int y1), (2, .int y2), (3, .int v15_3), (4, .int v15_4)] → (2147483647 + 1 - Int32.toInt v15_4).toNat < n → W p l e (rmk 2 48) s m [.ref a0, .int y1, .int y2].toArray below meth c H locs 0 0 (MQ below (th_Q D cT T (km q) (th_R T (some (.inl (-5, 5)))) []) [.ref a0, .int y1, .int y2].toArray s 0 0 (th_A T [])) (F0 m 15 ls []) := by
    intro n
    induction n with
    | zero => intro H locs ls v15_3 v15_4 iv15_3 iv15_4 f15_y1 hH hS hl hn; exact absurd hn (Nat.not_lt_zero _)
    | succ n ih15 =>
      intro H locs ls v15_3 v15_4 iv15_3 iv15_4 f15_y1 hH hS hl hn15
      have J61 : ∀ (H : Heap) (locs : List Loc) (ls : Array Slot) (v61_3 : Int32), IV v61_3 (-5) 5 → IV v15_4 0 2147483646 → IV y1 0 2 → th_H D cT T (km q) H → va_S (th_A T []) s.heap H locs → lv_has ls 5 [(0, .ref a0), (1, .int y1), (2, .int y2), (3, .int v61_3), (4, .int v15_4)] → W p l e (rmk 2 48) s m [.ref a0, .int y1, .int y2].toArray below meth c H locs 0 0 (MQ below (th_Q D cT T (km q) (th_R T (some (.inl (-5, 5)))) []) [.ref a0, .int y1, .int y2].toArray s 0 0 (th_A T [])) (F0 m 61 ls []) := by
        intro H locs ls v61_3 iv61_3 f61_v15_4 f61_y1 hH hS hl
        have l1v61_3 := iv61_3.1; have l2v61_3 := iv61_3.2
        refine th_iinc S dX11_sure_61 hl (k := 4) rfl (by decide) f61_v15_4 (by decide) (fun x1 ls ex1 ix1 hl => ?_)
        have hl : lv_has ls 5 [(4, .int x1), (0, .ref a0), (1, .int y1), (2, .int y2), (3, .int v61_3)] := hl
        have ix1 : IV x1 1 2147483647 := ix1
        refine lv_goto (tgt := 15) hx hb dX11_sure_64 (by decide) ?_
        exact ih15 H locs ls v61_3 x1 iv61_3 (iv_w ix1 (by decide)) f61_y1 hH hS (lv_sub hl [1, 2, 3, 4, 0] rfl) (th_up iv15_4 ex1 (by decide) hn15)
      have J54 : ∀ (H : Heap) (locs : List Loc) (ls : Array Slot), IV v15_4 0 2147483646 → IV y1 0 2 → th_H D cT T (km q) H → va_S (th_A T []) s.heap H locs → lv_has ls 5 [(0, .ref a0), (1, .int y1), (2, .int y2), (4, .int v15_4)] → W p l e (rmk 2 48) s m [.ref a0, .int y1, .int y2].toArray below meth c H locs 0 0 (MQ below (th_Q D cT T (km q) (th_R T (some (.inl (-5, 5)))) []) [.ref a0, .int y1, .int y2].toArray s 0 0 (th_A T [])) (F0 m 54 ls []) := by
        intro H locs ls f54_v15_4 f54_y1 hH hS hl
        refine lv_iload hx hb dX11_sure_54 (lv_at hl 3 rfl) ?_
        refine lv_iload_n hx hb dX11_sure_56 rfl (lv_at hl 1 rfl) ?_
        refine th_callSi (n := 2) (As := [.int v15_4, .int y1]) S hK hH hS (th_A.sub (by decide)) (m_X11_likingOf l D cT T q hT hq (v15_4) (iv_top _) (y1) (iv_top _)) gm_1887 gm_1885 gm_1886 gm_124 (by decide +kernel) ⟨rfl, rfl, Nat.le_of_ble_eq_true rfl, Nat.le_of_ble_eq_true rfl⟩ rfl hl.1 rfl (Nat.le_of_ble_eq_true rfl) dX11_sure_57 ⟨Nat.zero_le _, Nat.zero_le _⟩ (fun x2 H locs ix2 hH hS hF1 => ?_)
        refine lv_istore_n (lv' := [(3, .int x2), (0, .ref a0), (1, .int y1), (2, .int y2), (4, .int v15_4)]) hx hb dX11_sure_60 rfl hl (by decide) rfl (fun ls hl => ?_)
        exact J61 H locs ls x2 ix2 f54_v15_4 f54_y1 hH hS (lv_sub hl [1, 2, 3, 0, 4] rfl)
      have l1v15_3 := iv15_3.1; have l2v15_3 := iv15_3.2
      have l1v15_4 := iv15_4.1; have l2v15_4 := iv15_4.2
      refine lv_iload hx hb dX11_sure_15 (lv_at hl 4 rfl) ?_
      refine lv_aload_n hx hb dX11_sure_17 rfl (lv_at hl 0 rfl) ?_
      refine th_callVi (n := 0) (As := []) S hK hH hS (th_A.sub (by decide)) (m_X11_likingsMany l D cT T q hT hq a0 t0) gm_1880 gm_1877 gm_1879 gm_109 gm_124 (by decide +kernel) ⟨rfl, rfl, Nat.le_of_ble_eq_true rfl, Nat.le_of_ble_eq_true rfl⟩ t0 km_0 rfl rfl hl.1 rfl (Nat.le_of_ble_eq_true rfl) dX11_sure_18 ⟨Nat.zero_le _, Nat.zero_le _⟩ (fun x3 H locs ix3 hH hS hF1 => ?_)
      refine lv_icmp_ge (tgt := 67) hx hb dX11_sure_21 (by decide) (fun c4 => ?_) (fun c4 => ?_)
      · skip
        have rlc4 : x3.toInt ≤ v15_4.toInt := iv_le c4
        refine lv_iload_n hx hb dX11_sure_67 rfl (lv_at hl 3 rfl) ?_
        exact th_iret S hK hH hS hr hlocks (th_R.i iv15_3) dX11_sure_68
      · skip
        have rlc4 : v15_4.toInt < x3.toInt := iv_nle c4
        have ir5 : IV v15_4 0 2147483646 := iv_uL iv15_4 ix3 (iv_nle c4) (by decide)
        have ir5a := ir5.1; have ir5b := ir5.2
        have ir6 : IV x3 1 2147483647 := iv_uR iv15_4 ix3 (iv_nle c4) (by decide)
        have ir6a := ir6.1; have ir6b := ir6.2
        refine lv_aload_n hx hb dX11_sure_24 rfl (lv_at hl 0 rfl) ?_
        refine lv_iload hx hb dX11_sure_25 (lv_at hl 4 rfl) ?_
        refine lv_iload_n hx hb dX11_sure_27 rfl (lv_at hl 2 rfl) ?_
        refine th_callVi (n := 2) (As := [.int v15_4, .int y2]) S hK hH hS (th_A.sub (by decide)) (m_X11_doesFit l D cT T q hT hq a0 t0 (v15_4) (iv_top _) (y2) j2) gm_1884 gm_1881 gm_1883 gm_110 gm_124 (by decide +kernel) ⟨rfl, rfl, Nat.le_of_ble_eq_true rfl, Nat.le_of_ble_eq_true rfl⟩ t0 km_0 rfl rfl hl.1 rfl (Nat.le_of_ble_eq_true rfl) dX11_sure_28 ⟨Nat.zero_le _, Nat.zero_le _⟩ (fun x7 H locs ix7 hH hS hF1 => ?_)
        refine lv_if_ne (tgt := 37) hx hb dX11_sure_31 (by decide) (fun c8 => ?_) (fun c8 => ?_)
        · skip
          have rlc8 : x7.toInt ≠ (0 : Int) := iv_ne c8
          have ir9 : IV x7 1 1 := iv_cutL ix7 (iv_c (by decide) : IV 0 0 0) c8 (by decide)
          have ir9a := ir9.1; have ir9b := ir9.2
          refine lv_iload_n hx hb dX11_sure_37 rfl (lv_at hl 3 rfl) ?_
          refine lv_if_lt (tgt := 54) hx hb dX11_sure_38 (by decide) (fun c10 => ?_) (fun c10 => ?_)
          · skip
            have rlc10 : v15_3.toInt < (0 : Int) := iv_lt c10
            have ir11 : IV v15_3 (-5) (-1) := iv_uL iv15_3 (iv_c (by decide) : IV 0 0 0) (iv_lt c10) (by decide)
            have ir11a := ir11.1; have ir11b := ir11.2
            exact J54 H locs ls ir5 f15_y1 hH hS (lv_sub hl [0, 1, 2, 4] rfl)
          · skip
            have rlc10 : (0 : Int) ≤ v15_3.toInt := iv_nlt c10
            have ir12 : IV v15_3 0 5 := iv_vR (iv_c (by decide) : IV 0 0 0) iv15_3 (iv_nlt c10) (by decide)
            have ir12a := ir12.1; have ir12b := ir12.2
            refine lv_iload_n hx hb dX11_sure_41 rfl (lv_at hl 3 rfl) ?_
            refine lv_iload hx hb dX11_sure_42 (lv_at hl 4 rfl) ?_
            refine lv_iload_n hx hb dX11_sure_44 rfl (lv_at hl 1 rfl) ?_
            refine th_callSi (n := 2) (As := [.int v15_4, .int y1]) S hK hH hS (th_A.sub (by decide)) (m_X11_likingOf l D cT T q hT hq (v15_4) (iv_top _) (y1) (iv_top _)) gm_1887 gm_1885 gm_1886 gm_124 (by decide +kernel) ⟨rfl, rfl, Nat.le_of_ble_eq_true rfl, Nat.le_of_ble_eq_true rfl⟩ rfl hl.1 rfl (Nat.le_of_ble_eq_true rfl) dX11_sure_45 ⟨Nat.zero_le _, Nat.zero_le _⟩ (fun x13 H locs ix13 hH hS hF1 => ?_)
            refine lv_icmp_eq (tgt := 54) hx hb dX11_sure_48 (by decide) (fun c14 => ?_) (fun c14 => ?_)
            · skip
              have rlc14 : v15_3.toInt = x13.toInt := congrArg Int32.toInt c14
              have ir15 : IV x13 0 5 := iv_eR c14 ir12
              have ir15a := ir15.1; have ir15b := ir15.2
              exact J54 H locs ls ir5 f15_y1 hH hS (lv_sub hl [0, 1, 2, 4] rfl)
            · skip
              have rlc14 : v15_3.toInt ≠ x13.toInt := iv_ne c14
              refine lv_bipush (v := (-2)) hx hb dX11_sure_51 (by decide) ?_
              exact th_iret S hK hH hS hr hlocks (th_R.i (iv_w (iv_c (by decide) : IV (-2) (-2) (-2)) (by decide))) dX11_sure_53
        · skip
          have rlc8 : x7.toInt = (0 : Int) := congrArg Int32.toInt c8
          have ir16 : IV x7 0 0 := iv_eL c8 (iv_c (by decide) : IV 0 0 0)
          have ir16a := ir16.1; have ir16b := ir16.2
          refine lv_goto (tgt := 61) hx hb dX11_sure_34 (by decide) ?_
          exact J61 H locs ls v15_3 iv15_3 ir5 f15_y1 hH hS (lv_sub hl [0, 1, 2, 3, 4] rfl)
  have J0 : ∀ (H : Heap) (locs : List Loc) (ls : Array Slot), th_H D cT T (km q) H → va_S (th_A T []) s.heap H locs → lv_has ls 5 [(0, .ref a0), (1, .int y1), (2, .int y2)] → W p l e (rmk 2 48) s m [.ref a0, .int y1, .int y2].toArray below meth c H locs 0 0 (MQ below (th_Q D cT T (km q) (th_R T (some (.inl (-5, 5)))) []) [.ref a0, .int y1, .int y2].toArray s 0 0 (th_A T [])) (F0 m 0 ls []) := by
    intro H locs ls hH hS hl
    refine lv_aload_n hx hb dX11_sure_0 rfl (lv_at hl 0 rfl) ?_
    refine lv_iload_n hx hb dX11_sure_1 rfl (lv_at hl 1 rfl) ?_
    refine th_callVp (n := 1) (As := [.int y1]) S hK hH hS (th_A.sub (by decide)) (m_X11_isFood l D cT T q hT hq a0 t0 (y1) j1) gm_1615 gm_1612 gm_1614 gm_79 gm_124 (by decide +kernel) ⟨rfl, rfl, Nat.le_of_ble_eq_true rfl, Nat.le_of_ble_eq_true rfl⟩ t0 km_0 rfl rfl hl.1 rfl (Nat.le_of_ble_eq_true rfl) dX11_sure_2 ⟨Nat.zero_le _, Nat.zero_le _⟩ (fun x17 H locs ix17 ox17 hH hS hF1 => ?_)
    have ox17 : x17.toInt ≠ 0 → 0 ≤ y1.toInt ∧ y1.toInt < q 16 := ox17
    refine lv_if_ne (tgt := 10) hx hb dX11_sure_5 (by decide) (fun c18 => ?_) (fun c18 => ?_)
    · skip
      have rlc18 : x17.toInt ≠ (0 : Int) := iv_ne c18
      have ir19 : IV x17 1 1 := iv_cutL ix17 (iv_c (by decide) : IV 0 0 0) c18 (by decide)
      have ir19a := ir19.1; have ir19b := ir19.2
      have ir20 : IV y1 0 2 := ((fun z => by have z1 := iv_ne z; have z2 : x17.toInt ≠ 0 := z1; have z60 := qkm_16 hq; exact ⟨by omega, by omega⟩) : ¬ x17 = 0 → IV y1 0 2) c18
      have ir20a := ir20.1; have ir20b := ir20.2
      refine lv_iconst (v := (-1)) hx hb dX11_sure_10 (by decide) ?_
      refine lv_istore_n (lv' := [(3, .int (-1)), (0, .ref a0), (1, .int y1), (2, .int y2)]) hx hb dX11_sure_11 rfl hl (by decide) rfl (fun ls hl => ?_)
      refine lv_iconst (v := 0) hx hb dX11_sure_12 (by decide) ?_
      refine lv_istore (lv' := [(4, .int 0), (3, .int (-1)), (0, .ref a0), (1, .int y1), (2, .int y2)]) hx hb dX11_sure_13 hl (by decide) rfl (fun ls hl => ?_)
      exact J15 ((2147483647 + 1 - Int32.toInt 0).toNat + 1) H locs ls (-1) 0 (iv_w (iv_c (by decide) : IV (-1) (-1) (-1)) (by decide)) (iv_w (iv_c (by decide) : IV 0 0 0) (by decide)) ir20 hH hS (lv_sub hl [2, 3, 4, 1, 0] rfl) (Nat.lt_succ_self _)
    · skip
      have rlc18 : x17.toInt = (0 : Int) := congrArg Int32.toInt c18
      have ir21 : IV x17 0 0 := iv_eL c18 (iv_c (by decide) : IV 0 0 0)
      have ir21a := ir21.1; have ir21b := ir21.2
      refine lv_iconst (v := (-1)) hx hb dX11_sure_8 (by decide) ?_
      exact th_iret S hK hH hS hr hlocks (th_R.i (iv_w (iv_c (by decide) : IV (-1) (-1) (-1)) (by decide))) dX11_sure_9
  exact J0 s.heap [] ls hH va_S.rf hl

set_option maxRecDepth 100000 in
theorem m_X11_fullBy (l : Launch) (D : va_G) (cT : Nat → ClassId) (T : Nat → Option Nat) (q : Nat → Int) (hT : tokm T) (hq : qkm q) (a0 : Nat) (t0 : T a0 = some 0) (y1 : Int32) (j1 : IV y1 (-2147483648) 2147483647) (y2 : Int32) (j2 : IV y2 (-2147483648) 2147483647) (y3 : Int32) (j3 : IV y3 (-2147483648) 2147483647) (y4 : Int32) (j4 : IV y4 (-2147483648) 2147483647) : th_Met l D cT T (km q) yX11_fullBy cX11_fullBy 7 (some .int) (rmk 2 48) [.ref a0, .int y1, .int y2, .int y3, .int y4] (th_R T (some (.inl (-2147483648, 2147483647)))) [] := by
  refine th_start (by decide) (Nat.le_of_ble_eq_true rfl) ?_
  intro p e s m below meth c ls S hK hH hr hlocks hnm hl
  have hx := S.1
  have hb := S.2.1
  have hl : lv_has ls 7 [(0, .ref a0), (1, .int y1), (2, .int y2), (3, .int y3), (4, .int y4)] := hl
  have J6 : ∀ (n : Nat) (H : Heap) (locs : List Loc) (ls : Array Slot) (v6_5 : Int32) (v6_6 : Int32), IV v6_5 (-2147483648) 2147483647 → IV v6_6 0 2147483647 → th_H D cT T (km q) H → va_S (th_A T []) s.heap H locs → lv_has ls 7 [(0, .ref a0), (1, .int y1), (2, .int y2), (3, .int y3), (4, .int y4), (5, .int v6_5), (6, .int v6_6)] → (2147483647 + 1 - Int32.toInt v6_6).toNat < n → W p l e (rmk 2 48) s m [.ref a0, .int y1, .int y2, .int y3, .int y4].toArray below meth c H locs 0 0 (MQ below (th_Q D cT T (km q) (th_R T (some (.inl (-2147483648, 2147483647)))) []) [.ref a0, .int y1, .int y2, .int y3, .int y4].toArray s 0 0 (th_A T [])) (F0 m 6 ls []) := by
    intro n
    induction n with
    | zero => intro H locs ls v6_5 v6_6 iv6_5 iv6_6 hH hS hl hn; exact absurd hn (Nat.not_lt_zero _)
    | succ n ih6 =>
      intro H locs ls v6_5 v6_6 iv6_5 iv6_6 hH hS hl hn6
      have J41 : ∀ (H : Heap) (locs : List Loc) (ls : Array Slot) (v41_5 : Int32), IV v41_5 (-2147483648) 2147483647 → IV v6_6 0 2147483646 → th_H D cT T (km q) H → va_S (th_A T []) s.heap H locs → lv_has ls 7 [(0, .ref a0), (1, .int y1), (2, .int y2), (3, .int y3), (4, .int y4), (5, .int v41_5), (6, .int v6_6)] → W p l e (rmk 2 48) s m [.ref a0, .int y1, .int y2, .int y3, .int y4].toArray below meth c H locs 0 0 (MQ below (th_Q D cT T (km q) (th_R T (some (.inl (-2147483648, 2147483647)))) []) [.ref a0, .int y1, .int y2, .int y3, .int y4].toArray s 0 0 (th_A T [])) (F0 m 41 ls []) := by
        intro H locs ls v41_5 iv41_5 f41_v6_6 hH hS hl
        refine th_iinc S dX11_fullBy_41 hl (k := 6) rfl (by decide) f41_v6_6 (by decide) (fun x1 ls ex1 ix1 hl => ?_)
        have hl : lv_has ls 7 [(6, .int x1), (0, .ref a0), (1, .int y1), (2, .int y2), (3, .int y3), (4, .int y4), (5, .int v41_5)] := hl
        have ix1 : IV x1 1 2147483647 := ix1
        refine lv_goto (tgt := 6) hx hb dX11_fullBy_44 (by decide) ?_
        exact ih6 H locs ls v41_5 x1 iv41_5 (iv_w ix1 (by decide)) hH hS (lv_sub hl [1, 2, 3, 4, 5, 6, 0] rfl) (th_up iv6_6 ex1 (by decide) hn6)
      have l1v6_6 := iv6_6.1; have l2v6_6 := iv6_6.2
      refine lv_iload hx hb dX11_fullBy_6 (lv_at hl 6 rfl) ?_
      refine lv_aload_n hx hb dX11_fullBy_8 rfl (lv_at hl 0 rfl) ?_
      refine th_callVi (n := 0) (As := []) S hK hH hS (th_A.sub (by decide)) (m_X11_likingsMany l D cT T q hT hq a0 t0) gm_1880 gm_1877 gm_1879 gm_109 gm_124 (by decide +kernel) ⟨rfl, rfl, Nat.le_of_ble_eq_true rfl, Nat.le_of_ble_eq_true rfl⟩ t0 km_0 rfl rfl hl.1 rfl (Nat.le_of_ble_eq_true rfl) dX11_fullBy_9 ⟨Nat.zero_le _, Nat.zero_le _⟩ (fun x2 H locs ix2 hH hS hF1 => ?_)
      refine lv_icmp_ge (tgt := 47) hx hb dX11_fullBy_12 (by decide) (fun c3 => ?_) (fun c3 => ?_)
      · skip
        have rlc3 : x2.toInt ≤ v6_6.toInt := iv_le c3
        refine lv_iload hx hb dX11_fullBy_47 (lv_at hl 5 rfl) ?_
        exact th_iret S hK hH hS hr hlocks (th_R.i iv6_5) dX11_fullBy_49
      · skip
        have rlc3 : v6_6.toInt < x2.toInt := iv_nle c3
        have ir4 : IV v6_6 0 2147483646 := iv_uL iv6_6 ix2 (iv_nle c3) (by decide)
        have ir4a := ir4.1; have ir4b := ir4.2
        have ir5 : IV x2 1 2147483647 := iv_uR iv6_6 ix2 (iv_nle c3) (by decide)
        have ir5a := ir5.1; have ir5b := ir5.2
        refine lv_aload_n hx hb dX11_fullBy_15 rfl (lv_at hl 0 rfl) ?_
        refine lv_iload hx hb dX11_fullBy_16 (lv_at hl 6 rfl) ?_
        refine lv_iload hx hb dX11_fullBy_18 (lv_at hl 4 rfl) ?_
        refine th_callVi (n := 2) (As := [.int v6_6, .int y4]) S hK hH hS (th_A.sub (by decide)) (m_X11_doesFit l D cT T q hT hq a0 t0 (v6_6) (iv_top _) (y4) j4) gm_1884 gm_1881 gm_1883 gm_110 gm_124 (by decide +kernel) ⟨rfl, rfl, Nat.le_of_ble_eq_true rfl, Nat.le_of_ble_eq_true rfl⟩ t0 km_0 rfl rfl hl.1 rfl (Nat.le_of_ble_eq_true rfl) dX11_fullBy_20 ⟨Nat.zero_le _, Nat.zero_le _⟩ (fun x6 H locs ix6 hH hS hF1 => ?_)
        refine lv_if_eq (tgt := 41) hx hb dX11_fullBy_23 (by decide) (fun c7 => ?_) (fun c7 => ?_)
        · skip
          have rlc7 : x6.toInt = (0 : Int) := congrArg Int32.toInt c7
          have ir8 : IV x6 0 0 := iv_eL c7 (iv_c (by decide) : IV 0 0 0)
          have ir8a := ir8.1; have ir8b := ir8.2
          exact J41 H locs ls v6_5 iv6_5 ir4 hH hS (lv_sub hl [0, 1, 2, 3, 4, 5, 6] rfl)
        · skip
          have rlc7 : x6.toInt ≠ (0 : Int) := iv_ne c7
          have ir9 : IV x6 1 1 := iv_cutL ix6 (iv_c (by decide) : IV 0 0 0) c7 (by decide)
          have ir9a := ir9.1; have ir9b := ir9.2
          refine lv_iload_n hx hb dX11_fullBy_26 rfl (lv_at hl 2 rfl) ?_
          refine lv_iload hx hb dX11_fullBy_27 (lv_at hl 6 rfl) ?_
          refine lv_iload_n hx hb dX11_fullBy_29 rfl (lv_at hl 1 rfl) ?_
          refine th_callSi (n := 2) (As := [.int v6_6, .int y1]) S hK hH hS (th_A.sub (by decide)) (m_X11_likingOf l D cT T q hT hq (v6_6) (iv_top _) (y1) j1) gm_1887 gm_1885 gm_1886 gm_124 (by decide +kernel) ⟨rfl, rfl, Nat.le_of_ble_eq_true rfl, Nat.le_of_ble_eq_true rfl⟩ rfl hl.1 rfl (Nat.le_of_ble_eq_true rfl) dX11_fullBy_30 ⟨Nat.zero_le _, Nat.zero_le _⟩ (fun x10 H locs ix10 hH hS hF1 => ?_)
          refine lv_imul hx hb dX11_fullBy_33 ?_
          refine lv_topi (fun x11 ex11 => ?_)
          have ix11 := iv_top x11
          refine lv_iload_n hx hb dX11_fullBy_34 rfl (lv_at hl 3 rfl) ?_
          refine lv_icmp_lt (tgt := 41) hx hb dX11_fullBy_35 (by decide) (fun c12 => ?_) (fun c12 => ?_)
          · skip
            have rlc12 : x11.toInt < y3.toInt := iv_lt c12
            have ir13 : IV x11 (-2147483648) 2147483646 := iv_uL ix11 j3 (iv_lt c12) (by decide)
            have ir13a := ir13.1; have ir13b := ir13.2
            have ir14 : IV y3 (-2147483647) 2147483647 := iv_uR ix11 j3 (iv_lt c12) (by decide)
            have ir14a := ir14.1; have ir14b := ir14.2
            exact J41 H locs ls v6_5 iv6_5 ir4 hH hS (lv_sub hl [0, 1, 2, 3, 4, 5, 6] rfl)
          · skip
            have rlc12 : y3.toInt ≤ x11.toInt := iv_nlt c12
            obtain ⟨x15, ex15⟩ : ∃ z : Int32, z = v6_5 + Int32.ofInt 1 := ⟨_, rfl⟩
            refine lv_iinc (v := x15) (lv' := [(5, .int x15), (0, .ref a0), (1, .int y1), (2, .int y2), (3, .int y3), (4, .int y4), (6, .int v6_6)]) hx hb dX11_fullBy_38 hl (k := 5) rfl (by rw [ex15]) (by decide) rfl (fun ls hl => ?_)
            have ix15 := iv_top x15
            exact J41 H locs ls x15 ix15 ir4 hH hS (lv_sub hl [1, 2, 3, 4, 5, 0, 6] rfl)
  have J0 : ∀ (H : Heap) (locs : List Loc) (ls : Array Slot), th_H D cT T (km q) H → va_S (th_A T []) s.heap H locs → lv_has ls 7 [(0, .ref a0), (1, .int y1), (2, .int y2), (3, .int y3), (4, .int y4)] → W p l e (rmk 2 48) s m [.ref a0, .int y1, .int y2, .int y3, .int y4].toArray below meth c H locs 0 0 (MQ below (th_Q D cT T (km q) (th_R T (some (.inl (-2147483648, 2147483647)))) []) [.ref a0, .int y1, .int y2, .int y3, .int y4].toArray s 0 0 (th_A T [])) (F0 m 0 ls []) := by
    intro H locs ls hH hS hl
    refine lv_iconst (v := 0) hx hb dX11_fullBy_0 (by decide) ?_
    refine lv_istore (lv' := [(5, .int 0), (0, .ref a0), (1, .int y1), (2, .int y2), (3, .int y3), (4, .int y4)]) hx hb dX11_fullBy_1 hl (by decide) rfl (fun ls hl => ?_)
    refine lv_iconst (v := 0) hx hb dX11_fullBy_3 (by decide) ?_
    refine lv_istore (lv' := [(6, .int 0), (5, .int 0), (0, .ref a0), (1, .int y1), (2, .int y2), (3, .int y3), (4, .int y4)]) hx hb dX11_fullBy_4 hl (by decide) rfl (fun ls hl => ?_)
    exact J6 ((2147483647 + 1 - Int32.toInt 0).toNat + 1) H locs ls 0 0 (iv_top _) (iv_w (iv_c (by decide) : IV 0 0 0) (by decide)) hH hS (lv_sub hl [2, 3, 4, 5, 6, 1, 0] rfl) (Nat.lt_succ_self _)
  exact J0 s.heap [] ls hH va_S.rf hl

set_option maxRecDepth 100000 in
theorem m_X11_ask (l : Launch) (D : va_G) (cT : Nat → ClassId) (T : Nat → Option Nat) (q : Nat → Int) (hT : tokm T) (hq : qkm q) (a0 : Nat) (t0 : T a0 = some 0) (y1 : Int32) (j1 : IV y1 (-2147483648) 2147483647) (y2 : Int32) (j2 : IV y2 (-2147483648) 2147483647) (y3 : Int32) (j3 : IV y3 (-2147483648) 2147483647) : th_Met l D cT T (km q) yX11_ask cX11_ask 11 (some .int) (rmk 3 74) [.ref a0, .int y1, .int y2, .int y3] (th_R T (some (.inl (-2147483648, 2147483647)))) [] := by
  refine th_start (by decide) (Nat.le_of_ble_eq_true rfl) ?_
  intro p e s m below meth c ls S hK hH hr hlocks hnm hl
  have hx := S.1
  have hb := S.2.1
  have hl : lv_has ls 11 [(0, .ref a0), (1, .int y1), (2, .int y2), (3, .int y3)] := hl
  have J163 : ∀ (H : Heap) (locs : List Loc) (ls : Array Slot) (w163_0 : Int32), IV w163_0 (-2147483648) 2147483647 → th_H D cT T (km q) H → va_S (th_A T []) s.heap H locs → lv_has ls 11 [] → W p l e (rmk 3 74) s m [.ref a0, .int y1, .int y2, .int y3].toArray below meth c H locs 0 0 (MQ below (th_Q D cT T (km q) (th_R T (some (.inl (-2147483648, 2147483647)))) []) [.ref a0, .int y1, .int y2, .int y3].toArray s 0 0 (th_A T [])) (F0 m 163 ls [.int w163_0]) := by
    intro H locs ls w163_0 iw163_0 hH hS hl
    exact th_iret S hK hH hS hr hlocks (th_R.i iw163_0) dX11_ask_163
  have J163_s0_m1 : ∀ (H : Heap) (locs : List Loc) (ls : Array Slot), th_H D cT T (km q) H → va_S (th_A T []) s.heap H locs → lv_has ls 11 [] → W p l e (rmk 3 74) s m [.ref a0, .int y1, .int y2, .int y3].toArray below meth c H locs 0 0 (MQ below (th_Q D cT T (km q) (th_R T (some (.inl (-2147483648, 2147483647)))) []) [.ref a0, .int y1, .int y2, .int y3].toArray s 0 0 (th_A T [])) (F0 m 163 ls [.int (-1)]) := by
    intro H locs ls hH hS hl
    exact th_iret S hK hH hS hr hlocks (th_R.i (iv_top _)) dX11_ask_163
  have J44 : ∀ (n : Nat) (H : Heap) (locs : List Loc) (ls : Array Slot) (v44_4 : Int32) (v44_5 : Int32) (v44_6 : Int32) (v44_7 : Int32), IV v44_4 (-2147483648) 2147483647 → IV v44_5 (-1) 29 → IV v44_6 (-2147483648) 2147483647 → IV v44_7 0 3 → ¬ v44_4 = 0 → IV y1 1 99 → IV y2 0 1 → th_H D cT T (km q) H → va_S (th_A T []) s.heap H locs → lv_has ls 11 [(0, .ref a0), (1, .int y1), (2, .int y2), (3, .int y3), (4, .int v44_4), (5, .int v44_5), (6, .int v44_6), (7, .int v44_7)] → (3 + 1 - Int32.toInt v44_7).toNat < n → W p l e (rmk 3 74) s m [.ref a0, .int y1, .int y2, .int y3].toArray below meth c H locs 0 0 (MQ below (th_Q D cT T (km q) (th_R T (some (.inl (-2147483648, 2147483647)))) []) [.ref a0, .int y1, .int y2, .int y3].toArray s 0 0 (th_A T [])) (F0 m 44 ls []) := by
    intro n
    induction n with
    | zero => intro H locs ls v44_4 v44_5 v44_6 v44_7 iv44_4 iv44_5 iv44_6 iv44_7 d44_4_0 f44_y1 f44_y2 hH hS hl hn; exact absurd hn (Nat.not_lt_zero _)
    | succ n ih44 =>
      intro H locs ls v44_4 v44_5 v44_6 v44_7 iv44_4 iv44_5 iv44_6 iv44_7 d44_4_0 f44_y1 f44_y2 hH hS hl hn44
      have J61 : ∀ (n : Nat) (H : Heap) (locs : List Loc) (ls : Array Slot) (v61_5 : Int32) (v61_6 : Int32) (v61_8 : Int32), IV v61_5 (-1) 29 → IV v61_6 (-2147483648) 2147483647 → IV v61_8 1 10 → ¬ v44_4 = 0 → IV v44_7 0 2 → IV y1 1 99 → IV y2 0 1 → th_H D cT T (km q) H → va_S (th_A T []) s.heap H locs → lv_has ls 11 [(0, .ref a0), (1, .int y1), (2, .int y2), (3, .int y3), (4, .int v44_4), (5, .int v61_5), (6, .int v61_6), (7, .int v44_7), (8, .int v61_8)] → (10 + 1 - Int32.toInt v61_8).toNat < n → W p l e (rmk 3 74) s m [.ref a0, .int y1, .int y2, .int y3].toArray below meth c H locs 0 0 (MQ below (th_Q D cT T (km q) (th_R T (some (.inl (-2147483648, 2147483647)))) []) [.ref a0, .int y1, .int y2, .int y3].toArray s 0 0 (th_A T [])) (F0 m 61 ls []) := by
        intro n
        induction n with
        | zero => intro H locs ls v61_5 v61_6 v61_8 iv61_5 iv61_6 iv61_8 d61_4_0 f61_v44_7 f61_y1 f61_y2 hH hS hl hn; exact absurd hn (Nat.not_lt_zero _)
        | succ n ih61 =>
          intro H locs ls v61_5 v61_6 v61_8 iv61_5 iv61_6 iv61_8 d61_4_0 f61_v44_7 f61_y1 f61_y2 hH hS hl hn61
          have J131 : ∀ (H : Heap) (locs : List Loc) (ls : Array Slot) (v131_5 : Int32) (v131_6 : Int32), IV v131_5 0 29 → IV v131_6 (-2147483648) 2147483647 → ¬ v44_4 = 0 → IV v44_7 0 2 → IV v61_8 1 9 → IV y1 1 99 → IV y2 0 1 → th_H D cT T (km q) H → va_S (th_A T []) s.heap H locs → lv_has ls 11 [(0, .ref a0), (1, .int y1), (2, .int y2), (3, .int y3), (4, .int v44_4), (5, .int v131_5), (6, .int v131_6), (7, .int v44_7), (8, .int v61_8)] → W p l e (rmk 3 74) s m [.ref a0, .int y1, .int y2, .int y3].toArray below meth c H locs 0 0 (MQ below (th_Q D cT T (km q) (th_R T (some (.inl (-2147483648, 2147483647)))) []) [.ref a0, .int y1, .int y2, .int y3].toArray s 0 0 (th_A T [])) (F0 m 131 ls []) := by
            intro H locs ls v131_5 v131_6 iv131_5 iv131_6 d131_4_0 f131_v44_7 f131_v61_8 f131_y1 f131_y2 hH hS hl
            have l1v131_5 := iv131_5.1; have l2v131_5 := iv131_5.2
            refine th_iinc S dX11_ask_131 hl (k := 8) rfl (by decide) f131_v61_8 (by decide) (fun x1 ls ex1 ix1 hl => ?_)
            have hl : lv_has ls 11 [(8, .int x1), (0, .ref a0), (1, .int y1), (2, .int y2), (3, .int y3), (4, .int v44_4), (5, .int v131_5), (6, .int v131_6), (7, .int v44_7)] := hl
            have ix1 : IV x1 2 10 := ix1
            refine lv_goto (tgt := 61) hx hb dX11_ask_134 (by decide) ?_
            exact ih61 H locs ls v131_5 v131_6 x1 (iv_w iv131_5 (by decide)) iv131_6 (iv_w ix1 (by decide)) d131_4_0 f131_v44_7 f131_y1 f131_y2 hH hS (lv_sub hl [1, 2, 3, 4, 5, 6, 7, 8, 0] rfl) (th_up iv61_8 ex1 (by decide) hn61)
          have J117 : ∀ (H : Heap) (locs : List Loc) (ls : Array Slot) (v117_10 : Int32), IV v117_10 (-2147483648) 2147483647 → ¬ v44_4 = 0 → IV v44_7 0 2 → IV v61_8 1 9 → IV y1 1 99 → IV y2 0 1 → th_H D cT T (km q) H → va_S (th_A T []) s.heap H locs → lv_has ls 11 [(0, .ref a0), (1, .int y1), (2, .int y2), (3, .int y3), (4, .int v44_4), (7, .int v44_7), (8, .int v61_8), (10, .int v117_10)] → W p l e (rmk 3 74) s m [.ref a0, .int y1, .int y2, .int y3].toArray below meth c H locs 0 0 (MQ below (th_Q D cT T (km q) (th_R T (some (.inl (-2147483648, 2147483647)))) []) [.ref a0, .int y1, .int y2, .int y3].toArray s 0 0 (th_A T [])) (F0 m 117 ls []) := by
            intro H locs ls v117_10 iv117_10 d117_4_0 f117_v44_7 f117_v61_8 f117_y1 f117_y2 hH hS hl
            refine lv_bipush (v := 10) hx hb dX11_ask_117 (by decide) ?_
            refine lv_iload hx hb dX11_ask_119 (lv_at hl 5 rfl) ?_
            refine lv_imul hx hb dX11_ask_121 ?_
            refine lv_topi (fun x2 ex2 => ?_)
            have ix2 : IV x2 0 20 := by rw [ex2]; exact iv_mul (iv_c (by decide) : IV 10 10 10) f117_v44_7 (by decide) (by decide)
            have ux2 : x2.toInt = (10 : Int) * v44_7.toInt := by rw [ex2]; exact iv_mulE (iv_corner ((iv_c (by decide) : IV 10 10 10)).1 ((iv_c (by decide) : IV 10 10 10)).2 (f117_v44_7).1 (f117_v44_7).2 (by decide))
            refine lv_iload hx hb dX11_ask_122 (lv_at hl 6 rfl) ?_
            refine lv_iadd hx hb dX11_ask_124 ?_
            refine lv_topi (fun x3 ex3 => ?_)
            have ix3 : IV x3 1 29 := by rw [ex3]; exact iv_add ix2 f117_v61_8 (by decide)
            have ux3 : x3.toInt = x2.toInt + v61_8.toInt := by rw [ex3]; exact iv_addE (by have z1 := (ix2).1; have z2 := (ix2).2; have z3 := (f117_v61_8).1; have z4 := (f117_v61_8).2; omega)
            refine lv_istore (lv' := [(5, .int x3), (0, .ref a0), (1, .int y1), (2, .int y2), (3, .int y3), (4, .int v44_4), (7, .int v44_7), (8, .int v61_8), (10, .int v117_10)]) hx hb dX11_ask_125 hl (by decide) rfl (fun ls hl => ?_)
            refine lv_iload hx hb dX11_ask_127 (lv_at hl 8 rfl) ?_
            refine lv_istore (lv' := [(6, .int v117_10), (5, .int x3), (0, .ref a0), (1, .int y1), (2, .int y2), (3, .int y3), (4, .int v44_4), (7, .int v44_7), (8, .int v61_8), (10, .int v117_10)]) hx hb dX11_ask_129 hl (by decide) rfl (fun ls hl => ?_)
            exact J131 H locs ls x3 v117_10 (iv_w ix3 (by decide)) iv117_10 d117_4_0 f117_v44_7 f117_v61_8 f117_y1 f117_y2 hH hS (lv_sub hl [2, 3, 4, 5, 6, 1, 0, 7, 8] rfl)
          have J100 : ∀ (H : Heap) (locs : List Loc) (ls : Array Slot) (w100_0 : Int32), IV w100_0 (-2147483648) 2147483647 → ¬ v44_4 = 0 → IV v44_7 0 2 → IV v61_8 1 9 → IV y1 1 99 → IV y2 0 1 → th_H D cT T (km q) H → va_S (th_A T []) s.heap H locs → lv_has ls 11 [(0, .ref a0), (1, .int y1), (2, .int y2), (3, .int y3), (4, .int v44_4), (5, .int v61_5), (6, .int v61_6), (7, .int v44_7), (8, .int v61_8)] → W p l e (rmk 3 74) s m [.ref a0, .int y1, .int y2, .int y3].toArray below meth c H locs 0 0 (MQ below (th_Q D cT T (km q) (th_R T (some (.inl (-2147483648, 2147483647)))) []) [.ref a0, .int y1, .int y2, .int y3].toArray s 0 0 (th_A T [])) (F0 m 100 ls [.int w100_0]) := by
            intro H locs ls w100_0 iw100_0 d100_4_0 f100_v44_7 f100_v61_8 f100_y1 f100_y2 hH hS hl
            refine lv_istore (lv' := [(10, .int w100_0), (0, .ref a0), (1, .int y1), (2, .int y2), (3, .int y3), (4, .int v44_4), (5, .int v61_5), (6, .int v61_6), (7, .int v44_7), (8, .int v61_8)]) hx hb dX11_ask_100 hl (by decide) rfl (fun ls hl => ?_)
            refine lv_iload hx hb dX11_ask_102 (lv_at hl 6 rfl) ?_
            refine lv_if_lt (tgt := 117) hx hb dX11_ask_104 (by decide) (fun c4 => ?_) (fun c4 => ?_)
            · skip
              have rlc4 : v61_5.toInt < (0 : Int) := iv_lt c4
              have ir5 : IV v61_5 (-1) (-1) := iv_uL iv61_5 (iv_c (by decide) : IV 0 0 0) (iv_lt c4) (by decide)
              have ir5a := ir5.1; have ir5b := ir5.2
              exact J117 H locs ls w100_0 iw100_0 d100_4_0 f100_v44_7 f100_v61_8 f100_y1 f100_y2 hH hS (lv_sub hl [1, 2, 3, 4, 5, 8, 9, 0] rfl)
            · skip
              have rlc4 : (0 : Int) ≤ v61_5.toInt := iv_nlt c4
              have ir6 : IV v61_5 0 29 := iv_vR (iv_c (by decide) : IV 0 0 0) iv61_5 (iv_nlt c4) (by decide)
              have ir6a := ir6.1; have ir6b := ir6.2
              refine lv_iload hx hb dX11_ask_107 (lv_at hl 0 rfl) ?_
              refine lv_iload hx hb dX11_ask_109 (lv_at hl 7 rfl) ?_
              refine lv_icmp_lt (tgt := 117) hx hb dX11_ask_111 (by decide) (fun c7 => ?_) (fun c7 => ?_)
              · skip
                have rlc7 : w100_0.toInt < v61_6.toInt := iv_lt c7
                have ir8 : IV w100_0 (-2147483648) 2147483646 := iv_uL iw100_0 iv61_6 (iv_lt c7) (by decide)
                have ir8a := ir8.1; have ir8b := ir8.2
                have ir9 : IV v61_6 (-2147483647) 2147483647 := iv_uR iw100_0 iv61_6 (iv_lt c7) (by decide)
                have ir9a := ir9.1; have ir9b := ir9.2
                exact J117 H locs ls w100_0 (iv_top _) d100_4_0 f100_v44_7 f100_v61_8 f100_y1 f100_y2 hH hS (lv_sub hl [1, 2, 3, 4, 5, 8, 9, 0] rfl)
              · skip
                have rlc7 : v61_6.toInt ≤ w100_0.toInt := iv_nlt c7
                refine lv_goto (tgt := 131) hx hb dX11_ask_114 (by decide) ?_
                exact J131 H locs ls v61_5 v61_6 ir6 iv61_6 d100_4_0 f100_v44_7 f100_v61_8 f100_y1 f100_y2 hH hS (lv_sub hl [1, 2, 3, 4, 5, 6, 7, 8, 9] rfl)
          have l1v61_5 := iv61_5.1; have l2v61_5 := iv61_5.2
          have l1v61_8 := iv61_8.1; have l2v61_8 := iv61_8.2
          refine lv_iload hx hb dX11_ask_61 (lv_at hl 8 rfl) ?_
          refine lv_bipush (v := 9) hx hb dX11_ask_63 (by decide) ?_
          refine lv_icmp_gt (tgt := 137) hx hb dX11_ask_65 (by decide) (fun c10 => ?_) (fun c10 => ?_)
          · skip
            have rlc10 : (9 : Int) < v61_8.toInt := iv_lt c10
            have ir11 : IV v61_8 10 10 := iv_uR (iv_c (by decide) : IV 9 9 9) iv61_8 (iv_lt c10) (by decide)
            have ir11a := ir11.1; have ir11b := ir11.2
            refine th_iinc S dX11_ask_137 hl (k := 7) rfl (by decide) f61_v44_7 (by decide) (fun x12 ls ex12 ix12 hl => ?_)
            have hl : lv_has ls 11 [(7, .int x12), (0, .ref a0), (1, .int y1), (2, .int y2), (3, .int y3), (4, .int v44_4), (5, .int v61_5), (6, .int v61_6), (8, .int v61_8)] := hl
            have ix12 : IV x12 1 3 := ix12
            refine lv_goto (tgt := 44) hx hb dX11_ask_140 (by decide) ?_
            exact ih44 H locs ls v44_4 v61_5 v61_6 x12 iv44_4 iv61_5 iv61_6 (iv_w ix12 (by decide)) d61_4_0 f61_y1 f61_y2 hH hS (lv_sub hl [1, 2, 3, 4, 5, 6, 7, 0] rfl) (th_up iv44_7 ex12 (by decide) hn44)
          · skip
            have rlc10 : v61_8.toInt ≤ (9 : Int) := iv_nlt c10
            have ir13 : IV v61_8 1 9 := iv_vL iv61_8 (iv_c (by decide) : IV 9 9 9) (iv_nlt c10) (by decide)
            have ir13a := ir13.1; have ir13b := ir13.2
            refine lv_aload_n hx hb dX11_ask_68 rfl (lv_at hl 0 rfl) ?_
            refine lv_iload hx hb dX11_ask_69 (lv_at hl 7 rfl) ?_
            refine lv_iload hx hb dX11_ask_71 (lv_at hl 8 rfl) ?_
            refine lv_iload_n hx hb dX11_ask_73 rfl (lv_at hl 1 rfl) ?_
            refine lv_iload_n hx hb dX11_ask_74 rfl (lv_at hl 3 rfl) ?_
            refine th_callVi (n := 4) (As := [.int v44_7, .int v61_8, .int y1, .int y3]) S hK hH hS (th_A.sub (by decide)) (m_X11_fullBy l D cT T q hT hq a0 t0 (v44_7) (iv_top _) (v61_8) (iv_top _) (y1) (iv_top _) (y3) j3) gm_1900 gm_1897 gm_1899 gm_111 gm_124 (by decide +kernel) ⟨rfl, rfl, Nat.le_of_ble_eq_true rfl, Nat.le_of_ble_eq_true rfl⟩ t0 km_0 rfl rfl hl.1 rfl (Nat.le_of_ble_eq_true rfl) dX11_ask_75 ⟨Nat.zero_le _, Nat.zero_le _⟩ (fun x14 H locs ix14 hH hS hF1 => ?_)
            refine lv_istore (lv' := [(9, .int x14), (0, .ref a0), (1, .int y1), (2, .int y2), (3, .int y3), (4, .int v44_4), (5, .int v61_5), (6, .int v61_6), (7, .int v44_7), (8, .int v61_8)]) hx hb dX11_ask_78 hl (by decide) rfl (fun ls hl => ?_)
            refine lv_iload hx hb dX11_ask_80 (lv_at hl 0 rfl) ?_
            refine lv_iload hx hb dX11_ask_82 (lv_at hl 5 rfl) ?_
            refine lv_iload hx hb dX11_ask_84 (lv_at hl 0 rfl) ?_
            refine lv_isub hx hb dX11_ask_86 ?_
            refine lv_topi (fun x15 ex15 => ?_)
            have ix15 := iv_top x15
            refine lv_icmp_le (tgt := 95) hx hb dX11_ask_87 (by decide) (fun c16 => ?_) (fun c16 => ?_)
            · skip
              have rlc16 : x14.toInt ≤ x15.toInt := iv_le c16
              refine lv_iload hx hb dX11_ask_95 (lv_at hl 5 rfl) ?_
              refine lv_iload hx hb dX11_ask_97 (lv_at hl 0 rfl) ?_
              refine lv_isub hx hb dX11_ask_99 ?_
              refine lv_topi (fun x17 ex17 => ?_)
              have zx17 : x15 = x17 := ex15.trans ex17.symm
              subst zx17
              exact J100 H locs ls x15 ix15 d61_4_0 f61_v44_7 ir13 f61_y1 f61_y2 hH hS (lv_sub hl [1, 2, 3, 4, 5, 6, 7, 8, 9] rfl)
            · skip
              have rlc16 : x15.toInt < x14.toInt := iv_nle c16
              have ir18 : IV x15 (-2147483648) 2147483646 := iv_uL ix15 ix14 (iv_nle c16) (by decide)
              have ir18a := ir18.1; have ir18b := ir18.2
              have ir19 : IV x14 (-2147483647) 2147483647 := iv_uR ix15 ix14 (iv_nle c16) (by decide)
              have ir19a := ir19.1; have ir19b := ir19.2
              refine lv_iload hx hb dX11_ask_90 (lv_at hl 0 rfl) ?_
              refine lv_goto (tgt := 100) hx hb dX11_ask_92 (by decide) ?_
              exact J100 H locs ls x14 (iv_top _) d61_4_0 f61_v44_7 ir13 f61_y1 f61_y2 hH hS (lv_sub hl [1, 2, 3, 4, 5, 6, 7, 8, 9] rfl)
      have l1v44_5 := iv44_5.1; have l2v44_5 := iv44_5.2
      have l1v44_7 := iv44_7.1; have l2v44_7 := iv44_7.2
      refine lv_iload hx hb dX11_ask_44 (lv_at hl 7 rfl) ?_
      refine lv_aload_n hx hb dX11_ask_46 rfl (lv_at hl 0 rfl) ?_
      refine th_get S hK hH inG11 t0 km_0 rfl 11 (by decide) gm_1241 rfl rfl dX11_ask_47 (fun v20 hv20 fv20 => ?_)
      obtain ⟨rf21, rfl, trf21⟩ := th_V.ref hv20
      refine lv_aload_n hx hb dX11_ask_50 rfl (lv_at hl 0 rfl) ?_
      refine th_get S hK hH inG11 t0 km_0 rfl 41 (by decide) gm_1271 rfl rfl dX11_ask_51 (fun v22 hv22 fv22 => ?_)
      obtain ⟨x23, rfl, ix23⟩ := th_V.int hv22
      have kx23a : q 10 ≤ x23.toInt := ix23.1
      have kx23b : x23.toInt ≤ q 10 := ix23.2
      have ix23 : IV x23 0 1 := iv_w ix23 (qkm_10 hq)
      refine th_iald S hK hH trf21 km_3 (th_in (hi := 1) ix23 (by decide)) dX11_ask_54 (fun v24 hv24 => ?_)
      obtain ⟨x25, rfl, ix25⟩ := th_bkA hv24 ix23 (by omega)
      have kx25a : q 16 ≤ x25.toInt := ix25.1
      have kx25b : x25.toInt ≤ q 16 := ix25.2
      have ix25 : IV x25 0 3 := iv_w ix25 (qkm_16 hq)
      refine lv_icmp_ge (tgt := 143) hx hb dX11_ask_55 (by decide) (fun c26 => ?_) (fun c26 => ?_)
      · skip
        have rlc26 : x25.toInt ≤ v44_7.toInt := iv_le c26
        refine lv_iload hx hb dX11_ask_143 (lv_at hl 5 rfl) ?_
        refine lv_if_ge (tgt := 152) hx hb dX11_ask_145 (by decide) (fun c27 => ?_) (fun c27 => ?_)
        · skip
          have rlc27 : (0 : Int) ≤ v44_5.toInt := iv_le c27
          have ir28 : IV v44_5 0 29 := iv_vR (iv_c (by decide) : IV 0 0 0) iv44_5 (iv_le c27) (by decide)
          have ir28a := ir28.1; have ir28b := ir28.2
          refine lv_iload_n hx hb dX11_ask_152 rfl (lv_at hl 2 rfl) ?_
          refine lv_if_ne (tgt := 161) hx hb dX11_ask_153 (by decide) (fun c29 => ?_) (fun c29 => ?_)
          · skip
            have rlc29 : y2.toInt ≠ (0 : Int) := iv_ne c29
            have ir30 : IV y2 1 1 := iv_cutL f44_y2 (iv_c (by decide) : IV 0 0 0) c29 (by decide)
            have ir30a := ir30.1; have ir30b := ir30.2
            refine lv_iload hx hb dX11_ask_161 (lv_at hl 6 rfl) ?_
            exact J163 H locs ls v44_6 iv44_6 hH hS (lv_sub hl [] rfl)
          · skip
            have rlc29 : y2.toInt = (0 : Int) := congrArg Int32.toInt c29
            have ir31 : IV y2 0 0 := iv_eL c29 (iv_c (by decide) : IV 0 0 0)
            have ir31a := ir31.1; have ir31b := ir31.2
            refine lv_iload hx hb dX11_ask_156 (lv_at hl 5 rfl) ?_
            refine lv_goto (tgt := 163) hx hb dX11_ask_158 (by decide) ?_
            exact J163 H locs ls v44_5 (iv_top _) hH hS (lv_sub hl [] rfl)
        · skip
          have rlc27 : v44_5.toInt < (0 : Int) := iv_nle c27
          have ir32 : IV v44_5 (-1) (-1) := iv_uL iv44_5 (iv_c (by decide) : IV 0 0 0) (iv_nle c27) (by decide)
          have ir32a := ir32.1; have ir32b := ir32.2
          refine lv_iconst (v := (-1)) hx hb dX11_ask_148 (by decide) ?_
          refine lv_goto (tgt := 163) hx hb dX11_ask_149 (by decide) ?_
          exact J163_s0_m1 H locs ls  hH hS (lv_sub hl [] rfl)
      · skip
        have rlc26 : v44_7.toInt < x25.toInt := iv_nle c26
        have ir33 : IV v44_7 0 2 := iv_uL iv44_7 ix25 (iv_nle c26) (by decide)
        have ir33a := ir33.1; have ir33b := ir33.2
        have ir34 : IV x25 1 3 := iv_uR iv44_7 ix25 (iv_nle c26) (by decide)
        have ir34a := ir34.1; have ir34b := ir34.2
        refine lv_iconst (v := 1) hx hb dX11_ask_58 (by decide) ?_
        refine lv_istore (lv' := [(8, .int 1), (0, .ref a0), (1, .int y1), (2, .int y2), (3, .int y3), (4, .int v44_4), (5, .int v44_5), (6, .int v44_6), (7, .int v44_7)]) hx hb dX11_ask_59 hl (by decide) rfl (fun ls hl => ?_)
        exact J61 ((10 + 1 - Int32.toInt 1).toNat + 1) H locs ls v44_5 v44_6 1 iv44_5 iv44_6 (iv_w (iv_c (by decide) : IV 1 1 1) (by decide)) d44_4_0 ir33 f44_y1 f44_y2 hH hS (lv_sub hl [1, 2, 3, 4, 5, 6, 7, 8, 0] rfl) (Nat.lt_succ_self _)
  have J19 : ∀ (H : Heap) (locs : List Loc) (ls : Array Slot), th_H D cT T (km q) H → va_S (th_A T []) s.heap H locs → lv_has ls 11 [] → W p l e (rmk 3 74) s m [.ref a0, .int y1, .int y2, .int y3].toArray below meth c H locs 0 0 (MQ below (th_Q D cT T (km q) (th_R T (some (.inl (-2147483648, 2147483647)))) []) [.ref a0, .int y1, .int y2, .int y3].toArray s 0 0 (th_A T [])) (F0 m 19 ls []) := by
    intro H locs ls hH hS hl
    refine lv_iconst (v := (-1)) hx hb dX11_ask_19 (by decide) ?_
    exact th_iret S hK hH hS hr hlocks (th_R.i (iv_top _)) dX11_ask_20
  have J0 : ∀ (H : Heap) (locs : List Loc) (ls : Array Slot), th_H D cT T (km q) H → va_S (th_A T []) s.heap H locs → lv_has ls 11 [(0, .ref a0), (1, .int y1), (2, .int y2), (3, .int y3)] → W p l e (rmk 3 74) s m [.ref a0, .int y1, .int y2, .int y3].toArray below meth c H locs 0 0 (MQ below (th_Q D cT T (km q) (th_R T (some (.inl (-2147483648, 2147483647)))) []) [.ref a0, .int y1, .int y2, .int y3].toArray s 0 0 (th_A T [])) (F0 m 0 ls []) := by
    intro H locs ls hH hS hl
    refine lv_iload_n hx hb dX11_ask_0 rfl (lv_at hl 1 rfl) ?_
    refine lv_iconst (v := 1) hx hb dX11_ask_1 (by decide) ?_
    refine lv_bipush (v := 99) hx hb dX11_ask_2 (by decide) ?_
    refine th_callSp (n := 3) (As := [.int y1, .int 1, .int 99]) S hK hH hS (th_A.sub (by decide)) (m_X11_isIn l D cT T q hT hq (y1) j1 (1) (iv_top _) (99) (iv_top _)) gm_1618 gm_1616 gm_1617 gm_124 (by decide +kernel) ⟨rfl, rfl, Nat.le_of_ble_eq_true rfl, Nat.le_of_ble_eq_true rfl⟩ rfl hl.1 rfl (Nat.le_of_ble_eq_true rfl) dX11_ask_4 ⟨Nat.zero_le _, Nat.zero_le _⟩ (fun x35 H locs ix35 ox35 hH hS hF1 => ?_)
    obtain ⟨ox35_0, ox35_1⟩ := ox35
    have ox35_0 : x35.toInt ≠ 0 → (1 : Int) ≤ y1.toInt ∧ y1.toInt ≤ (99 : Int) := ox35_0
    have ox35_1 : x35.toInt = 0 → y1.toInt < (1 : Int) ∨ (99 : Int) < y1.toInt := ox35_1
    refine lv_if_eq (tgt := 19) hx hb dX11_ask_7 (by decide) (fun c36 => ?_) (fun c36 => ?_)
    · skip
      have rlc36 : x35.toInt = (0 : Int) := congrArg Int32.toInt c36
      have ir37 : IV x35 0 0 := iv_eL c36 (iv_c (by decide) : IV 0 0 0)
      have ir37a := ir37.1; have ir37b := ir37.2
      exact J19 H locs ls  hH hS (lv_sub hl [] rfl)
    · skip
      have rlc36 : x35.toInt ≠ (0 : Int) := iv_ne c36
      have ir38 : IV x35 1 1 := iv_cutL ix35 (iv_c (by decide) : IV 0 0 0) c36 (by decide)
      have ir38a := ir38.1; have ir38b := ir38.2
      have ir39 : IV y1 1 99 := ((fun z => by have z1 := iv_ne z; have z2 : x35.toInt ≠ 0 := z1; have z4 := ((iv_c (by decide) : IV 1 1 1)).1; have z5 := ((iv_c (by decide) : IV 99 99 99)).2; exact ⟨by omega, by omega⟩) : ¬ x35 = 0 → IV y1 1 99) c36
      have ir39a := ir39.1; have ir39b := ir39.2
      refine lv_iload_n hx hb dX11_ask_10 rfl (lv_at hl 2 rfl) ?_
      refine lv_iconst (v := 0) hx hb dX11_ask_11 (by decide) ?_
      refine lv_iconst (v := 1) hx hb dX11_ask_12 (by decide) ?_
      refine th_callSp (n := 3) (As := [.int y2, .int 0, .int 1]) S hK hH hS (th_A.sub (by decide)) (m_X11_isIn l D cT T q hT hq (y2) j2 (0) (iv_top _) (1) (iv_top _)) gm_1618 gm_1616 gm_1617 gm_124 (by decide +kernel) ⟨rfl, rfl, Nat.le_of_ble_eq_true rfl, Nat.le_of_ble_eq_true rfl⟩ rfl hl.1 rfl (Nat.le_of_ble_eq_true rfl) dX11_ask_13 ⟨Nat.zero_le _, Nat.zero_le _⟩ (fun x40 H locs ix40 ox40 hH hS hF1 => ?_)
      obtain ⟨ox40_0, ox40_1⟩ := ox40
      have ox40_0 : x40.toInt ≠ 0 → (0 : Int) ≤ y2.toInt ∧ y2.toInt ≤ (1 : Int) := ox40_0
      have ox40_1 : x40.toInt = 0 → y2.toInt < (0 : Int) ∨ (1 : Int) < y2.toInt := ox40_1
      refine lv_if_ne (tgt := 21) hx hb dX11_ask_16 (by decide) (fun c41 => ?_) (fun c41 => ?_)
      · skip
        have rlc41 : x40.toInt ≠ (0 : Int) := iv_ne c41
        have ir42 : IV x40 1 1 := iv_cutL ix40 (iv_c (by decide) : IV 0 0 0) c41 (by decide)
        have ir42a := ir42.1; have ir42b := ir42.2
        have ir43 : IV y2 0 1 := ((fun z => by have z1 := iv_ne z; have z2 : x40.toInt ≠ 0 := z1; have z4 := ((iv_c (by decide) : IV 0 0 0)).1; have z5 := ((iv_c (by decide) : IV 1 1 1)).2; exact ⟨by omega, by omega⟩) : ¬ x40 = 0 → IV y2 0 1) c41
        have ir43a := ir43.1; have ir43b := ir43.2
        refine lv_aload_n hx hb dX11_ask_21 rfl (lv_at hl 0 rfl) ?_
        refine lv_iload_n hx hb dX11_ask_22 rfl (lv_at hl 3 rfl) ?_
        refine th_callVi (n := 1) (As := [.int y3]) S hK hH hS (th_A.sub (by decide)) (m_X11_fit l D cT T q hT hq a0 t0 (y3) j3) gm_1876 gm_1896 gm_1874 gm_1875 gm_124 (by decide +kernel) ⟨rfl, rfl, Nat.le_of_ble_eq_true rfl, Nat.le_of_ble_eq_true rfl⟩ t0 km_0 rfl rfl hl.1 rfl (Nat.le_of_ble_eq_true rfl) dX11_ask_23 ⟨Nat.zero_le _, Nat.zero_le _⟩ (fun x44 H locs ix44 hH hS hF1 => ?_)
        refine lv_istore (lv' := [(4, .int x44), (0, .ref a0), (1, .int y1), (2, .int y2), (3, .int y3)]) hx hb dX11_ask_26 hl (by decide) rfl (fun ls hl => ?_)
        refine lv_iload hx hb dX11_ask_28 (lv_at hl 0 rfl) ?_
        refine lv_if_ne (tgt := 35) hx hb dX11_ask_30 (by decide) (fun c45 => ?_) (fun c45 => ?_)
        · skip
          have rlc45 : x44.toInt ≠ (0 : Int) := iv_ne c45
          refine lv_iconst (v := (-1)) hx hb dX11_ask_35 (by decide) ?_
          refine lv_istore (lv' := [(5, .int (-1)), (4, .int x44), (0, .ref a0), (1, .int y1), (2, .int y2), (3, .int y3)]) hx hb dX11_ask_36 hl (by decide) rfl (fun ls hl => ?_)
          refine lv_iconst (v := 0) hx hb dX11_ask_38 (by decide) ?_
          refine lv_istore (lv' := [(6, .int 0), (5, .int (-1)), (4, .int x44), (0, .ref a0), (1, .int y1), (2, .int y2), (3, .int y3)]) hx hb dX11_ask_39 hl (by decide) rfl (fun ls hl => ?_)
          refine lv_iconst (v := 0) hx hb dX11_ask_41 (by decide) ?_
          refine lv_istore (lv' := [(7, .int 0), (6, .int 0), (5, .int (-1)), (4, .int x44), (0, .ref a0), (1, .int y1), (2, .int y2), (3, .int y3)]) hx hb dX11_ask_42 hl (by decide) rfl (fun ls hl => ?_)
          exact J44 ((3 + 1 - Int32.toInt 0).toNat + 1) H locs ls x44 (-1) 0 0 ix44 (iv_w (iv_c (by decide) : IV (-1) (-1) (-1)) (by decide)) (iv_top _) (iv_w (iv_c (by decide) : IV 0 0 0) (by decide)) c45 ir39 ir43 hH hS (lv_sub hl [4, 5, 6, 7, 3, 2, 1, 0] rfl) (Nat.lt_succ_self _)
        · skip
          have rlc45 : x44.toInt = (0 : Int) := congrArg Int32.toInt c45
          have ir46 : IV x44 0 0 := iv_eL c45 (iv_c (by decide) : IV 0 0 0)
          have ir46a := ir46.1; have ir46b := ir46.2
          refine lv_iconst (v := (-1)) hx hb dX11_ask_33 (by decide) ?_
          exact th_iret S hK hH hS hr hlocks (th_R.i (iv_top _)) dX11_ask_34
      · skip
        have rlc41 : x40.toInt = (0 : Int) := congrArg Int32.toInt c41
        have ir47 : IV x40 0 0 := iv_eL c41 (iv_c (by decide) : IV 0 0 0)
        have ir47a := ir47.1; have ir47b := ir47.2
        exact J19 H locs ls  hH hS (lv_sub hl [] rfl)
  exact J0 s.heap [] ls hH va_S.rf hl

set_option maxRecDepth 100000 in
theorem m_X11_image (l : Launch) (D : va_G) (cT : Nat → ClassId) (T : Nat → Option Nat) (q : Nat → Int) (hT : tokm T) (hq : qkm q) (a0 : Nat) (t0 : T a0 = some 0) (y1 : Int32) (j1 : IV y1 (-2147483648) 2147483647) : th_Met l D cT T (km q) yX11_image cX11_image 3 (some .int) (rmk 1 22) [.ref a0, .int y1] (th_R T (some (.inl (-2147483648, 2147483647)))) [43, 44] := by
  refine th_start (by decide) (Nat.le_of_ble_eq_true rfl) ?_
  intro p e s m below meth c ls S hK hH hr hlocks hnm hl
  have hx := S.1
  have hb := S.2.1
  have hl : lv_has ls 3 [(0, .ref a0), (1, .int y1)] := hl
  have J13 : ∀ (n : Nat) (H : Heap) (locs : List Loc) (ls : Array Slot) (v13_2 : Int32), IV v13_2 0 43 → IV y1 0 2 → th_H D cT T (km q) H → va_S (th_A T [43, 44]) s.heap H locs → lv_has ls 3 [(0, .ref a0), (1, .int y1), (2, .int v13_2)] → (43 + 1 - Int32.toInt v13_2).toNat < n → W p l e (rmk 1 22) s m [.ref a0, .int y1].toArray below meth c H locs 0 0 (MQ below (th_Q D cT T (km q) (th_R T (some (.inl (-2147483648, 2147483647)))) [43, 44]) [.ref a0, .int y1].toArray s 0 0 (th_A T [43, 44])) (F0 m 13 ls []) := by
    intro n
    induction n with
    | zero => intro H locs ls v13_2 iv13_2 f13_y1 hH hS hl hn; exact absurd hn (Nat.not_lt_zero _)
    | succ n ih13 =>
      intro H locs ls v13_2 iv13_2 f13_y1 hH hS hl hn13
      have l1v13_2 := iv13_2.1; have l2v13_2 := iv13_2.2
      refine lv_iload_n hx hb dX11_image_13 rfl (lv_at hl 2 rfl) ?_
      refine lv_bipush (v := 43) hx hb dX11_image_14 (by decide) ?_
      refine lv_icmp_ge (tgt := 42) hx hb dX11_image_16 (by decide) (fun c1 => ?_) (fun c1 => ?_)
      · skip
        have rlc1 : (43 : Int) ≤ v13_2.toInt := iv_le c1
        have ir2 : IV v13_2 43 43 := iv_vR (iv_c (by decide) : IV 43 43 43) iv13_2 (iv_le c1) (by decide)
        have ir2a := ir2.1; have ir2b := ir2.2
        refine lv_aload_n hx hb dX11_image_42 rfl (lv_at hl 0 rfl) ?_
        refine th_get S hK hH inG11 t0 km_0 rfl 68 (by decide) gm_1298 rfl rfl dX11_image_43 (fun v3 hv3 fv3 => ?_)
        obtain ⟨rf4, rfl, trf4⟩ := th_V.ref hv3
        refine lv_iload_n hx hb dX11_image_46 rfl (lv_at hl 1 rfl) ?_
        refine lv_iconst (v := 1) hx hb dX11_image_47 (by decide) ?_
        refine th_zast S hK hH hS ⟨44, by decide, trf4⟩ trf4 km_44 (th_in (hi := 2) f13_y1 (by decide)) (fun z => th_iv (iv_nbool z)) dX11_image_48 (fun H locs hH hS hq1 => ?_)
        refine lv_aload_n hx hb dX11_image_49 rfl (lv_at hl 0 rfl) ?_
        refine th_get S hK hH inG11 t0 km_0 rfl 52 (by decide) gm_1282 rfl rfl dX11_image_50 (fun v5 hv5 fv5 => ?_)
        obtain ⟨rf6, rfl, trf6⟩ := th_V.ref hv5
        refine lv_bipush (v := 40) hx hb dX11_image_53 (by decide) ?_
        refine th_iald S hK hH trf6 km_33 (th_in (hi := 40) (iv_w (iv_c (by decide) : IV 40 40 40) (by decide)) (by decide)) dX11_image_55 (fun v7 hv7 => ?_)
        obtain ⟨x8, rfl, ix8⟩ := th_V.int hv7
        exact th_iret S hK hH hS hr hlocks (th_R.i ix8) dX11_image_56
      · skip
        have rlc1 : v13_2.toInt < (43 : Int) := iv_nle c1
        have ir9 : IV v13_2 0 42 := iv_uL iv13_2 (iv_c (by decide) : IV 43 43 43) (iv_nle c1) (by decide)
        have ir9a := ir9.1; have ir9b := ir9.2
        refine lv_aload_n hx hb dX11_image_19 rfl (lv_at hl 0 rfl) ?_
        refine th_get S hK hH inG11 t0 km_0 rfl 67 (by decide) gm_1297 rfl rfl dX11_image_20 (fun v10 hv10 fv10 => ?_)
        obtain ⟨rf11, rfl, trf11⟩ := th_V.ref hv10
        refine lv_bipush (v := 43) hx hb dX11_image_23 (by decide) ?_
        refine lv_iload_n hx hb dX11_image_25 rfl (lv_at hl 1 rfl) ?_
        refine lv_imul hx hb dX11_image_26 ?_
        refine lv_topi (fun x12 ex12 => ?_)
        have ix12 : IV x12 0 86 := by rw [ex12]; exact iv_mul (iv_c (by decide) : IV 43 43 43) f13_y1 (by decide) (by decide)
        have ux12 : x12.toInt = (43 : Int) * y1.toInt := by rw [ex12]; exact iv_mulE (iv_corner ((iv_c (by decide) : IV 43 43 43)).1 ((iv_c (by decide) : IV 43 43 43)).2 (f13_y1).1 (f13_y1).2 (by decide))
        refine lv_iload_n hx hb dX11_image_27 rfl (lv_at hl 2 rfl) ?_
        refine lv_iadd hx hb dX11_image_28 ?_
        refine lv_topi (fun x13 ex13 => ?_)
        have ix13 : IV x13 0 128 := by rw [ex13]; exact iv_add ix12 ir9 (by decide)
        have ux13 : x13.toInt = x12.toInt + v13_2.toInt := by rw [ex13]; exact iv_addE (by have z1 := (ix12).1; have z2 := (ix12).2; have z3 := (ir9).1; have z4 := (ir9).2; omega)
        refine lv_aload_n hx hb dX11_image_29 rfl (lv_at hl 0 rfl) ?_
        refine th_get S hK hH inG11 t0 km_0 rfl 52 (by decide) gm_1282 rfl rfl dX11_image_30 (fun v14 hv14 fv14 => ?_)
        obtain ⟨rf15, rfl, trf15⟩ := th_V.ref hv14
        refine lv_iload_n hx hb dX11_image_33 rfl (lv_at hl 2 rfl) ?_
        refine th_iald S hK hH trf15 km_33 (th_in (hi := 42) ir9 (by decide)) dX11_image_34 (fun v16 hv16 => ?_)
        obtain ⟨x17, rfl, ix17⟩ := th_V.int hv16
        refine th_iast S hK hH hS ⟨43, by decide, trf11⟩ trf11 km_43 (th_in (hi := 128) ix13 (by decide)) (th_iv ix17) dX11_image_35 (fun H locs hH hS hq1 => ?_)
        have f18 := fv14.kept (hq1 _ (th_ne t0 trf11 (by decide)))
        refine th_iinc S dX11_image_36 hl (k := 2) rfl (by decide) ir9 (by decide) (fun x19 ls ex19 ix19 hl => ?_)
        have hl : lv_has ls 3 [(2, .int x19), (0, .ref a0), (1, .int y1)] := hl
        have ix19 : IV x19 1 43 := ix19
        refine lv_goto (tgt := 13) hx hb dX11_image_39 (by decide) ?_
        exact ih13 H locs ls x19 (iv_w ix19 (by decide)) f13_y1 hH hS (lv_sub hl [1, 2, 0] rfl) (th_up iv13_2 ex19 (by decide) hn13)
  have J0 : ∀ (H : Heap) (locs : List Loc) (ls : Array Slot), th_H D cT T (km q) H → va_S (th_A T [43, 44]) s.heap H locs → lv_has ls 3 [(0, .ref a0), (1, .int y1)] → W p l e (rmk 1 22) s m [.ref a0, .int y1].toArray below meth c H locs 0 0 (MQ below (th_Q D cT T (km q) (th_R T (some (.inl (-2147483648, 2147483647)))) [43, 44]) [.ref a0, .int y1].toArray s 0 0 (th_A T [43, 44])) (F0 m 0 ls []) := by
    intro H locs ls hH hS hl
    refine lv_iload_n hx hb dX11_image_0 rfl (lv_at hl 1 rfl) ?_
    refine lv_iconst (v := 0) hx hb dX11_image_1 (by decide) ?_
    refine lv_iconst (v := 2) hx hb dX11_image_2 (by decide) ?_
    refine th_callSp (n := 3) (As := [.int y1, .int 0, .int 2]) S hK hH hS (th_A.sub (by decide)) (m_X11_isIn l D cT T q hT hq (y1) j1 (0) (iv_top _) (2) (iv_top _)) gm_1618 gm_1616 gm_1617 gm_124 (by decide +kernel) ⟨rfl, rfl, Nat.le_of_ble_eq_true rfl, Nat.le_of_ble_eq_true rfl⟩ rfl hl.1 rfl (Nat.le_of_ble_eq_true rfl) dX11_image_3 ⟨Nat.zero_le _, Nat.zero_le _⟩ (fun x20 H locs ix20 ox20 hH hS hF1 => ?_)
    obtain ⟨ox20_0, ox20_1⟩ := ox20
    have ox20_0 : x20.toInt ≠ 0 → (0 : Int) ≤ y1.toInt ∧ y1.toInt ≤ (2 : Int) := ox20_0
    have ox20_1 : x20.toInt = 0 → y1.toInt < (0 : Int) ∨ (2 : Int) < y1.toInt := ox20_1
    refine lv_if_ne (tgt := 11) hx hb dX11_image_6 (by decide) (fun c21 => ?_) (fun c21 => ?_)
    · skip
      have rlc21 : x20.toInt ≠ (0 : Int) := iv_ne c21
      have ir22 : IV x20 1 1 := iv_cutL ix20 (iv_c (by decide) : IV 0 0 0) c21 (by decide)
      have ir22a := ir22.1; have ir22b := ir22.2
      have ir23 : IV y1 0 2 := ((fun z => by have z1 := iv_ne z; have z2 : x20.toInt ≠ 0 := z1; have z4 := ((iv_c (by decide) : IV 0 0 0)).1; have z5 := ((iv_c (by decide) : IV 2 2 2)).2; exact ⟨by omega, by omega⟩) : ¬ x20 = 0 → IV y1 0 2) c21
      have ir23a := ir23.1; have ir23b := ir23.2
      refine lv_iconst (v := 0) hx hb dX11_image_11 (by decide) ?_
      refine lv_istore_n (lv' := [(2, .int 0), (0, .ref a0), (1, .int y1)]) hx hb dX11_image_12 rfl hl (by decide) rfl (fun ls hl => ?_)
      exact J13 ((43 + 1 - Int32.toInt 0).toNat + 1) H locs ls 0 (iv_w (iv_c (by decide) : IV 0 0 0) (by decide)) ir23 hH hS (lv_sub hl [1, 2, 0] rfl) (Nat.lt_succ_self _)
    · skip
      have rlc21 : x20.toInt = (0 : Int) := congrArg Int32.toInt c21
      have ir24 : IV x20 0 0 := iv_eL c21 (iv_c (by decide) : IV 0 0 0)
      have ir24a := ir24.1; have ir24b := ir24.2
      refine lv_iconst (v := (-1)) hx hb dX11_image_9 (by decide) ?_
      exact th_iret S hK hH hS hr hlocks (th_R.i (iv_top _)) dX11_image_10
  exact J0 s.heap [] ls hH va_S.rf hl

set_option maxRecDepth 100000 in
theorem m_X11_back (l : Launch) (D : va_G) (cT : Nat → ClassId) (T : Nat → Option Nat) (q : Nat → Int) (hT : tokm T) (hq : qkm q) (a0 : Nat) (t0 : T a0 = some 0) (y1 : Int32) (j1 : IV y1 (-2147483648) 2147483647) (hp0 : q 7 + q 8 ≤ 40) : th_MetM l D cT T q yX11_back cX11_back 3 (some .int) (rmk 1 22) [.ref a0, .int y1] (fun v q2 => ∃ r : Int32, v = some (.int r) ∧ IV r (-2147483648) 2147483647 ∧ qkm q2 ∧ fr [7, 8] q q2 ∧ (q2 7 + q2 8 ≤ 40)) [0, 33] := by
  refine th_startM (by decide) (Nat.le_of_ble_eq_true rfl) ?_
  intro p e s m below meth c ls S hK hH hr hlocks hnm hl
  have hx := S.1
  have hb := S.2.1
  have hl : lv_has ls 3 [(0, .ref a0), (1, .int y1)] := hl
  have J22 : ∀ (n : Nat) (H : Heap) (locs : List Loc) (ls : Array Slot) (v22_2 : Int32), IV v22_2 0 43 → IV y1 0 2 → th_H D cT T (km q) H → va_S (th_A T [0, 33]) s.heap H locs → lv_has ls 3 [(0, .ref a0), (1, .int y1), (2, .int v22_2)] → (43 + 1 - Int32.toInt v22_2).toNat < n → W p l e (rmk 1 22) s m [.ref a0, .int y1].toArray below meth c H locs 0 0 (MQ below (th_QM D cT T (fun v q2 => ∃ r : Int32, v = some (.int r) ∧ IV r (-2147483648) 2147483647 ∧ qkm q2 ∧ fr [7, 8] q q2 ∧ (q2 7 + q2 8 ≤ 40)) [0, 33]) [.ref a0, .int y1].toArray s 0 0 (th_A T [0, 33])) (F0 m 22 ls []) := by
    intro n
    induction n with
    | zero => intro H locs ls v22_2 iv22_2 f22_y1 hH hS hl hn; exact absurd hn (Nat.not_lt_zero _)
    | succ n ih22 =>
      intro H locs ls v22_2 iv22_2 f22_y1 hH hS hl hn22
      have l1v22_2 := iv22_2.1; have l2v22_2 := iv22_2.2
      refine lv_iload_n hx hb dX11_back_22 rfl (lv_at hl 2 rfl) ?_
      refine lv_bipush (v := 43) hx hb dX11_back_23 (by decide) ?_
      refine lv_icmp_ge (tgt := 51) hx hb dX11_back_25 (by decide) (fun c1 => ?_) (fun c1 => ?_)
      · skip
        have rlc1 : (43 : Int) ≤ v22_2.toInt := iv_le c1
        have ir2 : IV v22_2 43 43 := iv_vR (iv_c (by decide) : IV 43 43 43) iv22_2 (iv_le c1) (by decide)
        have ir2a := ir2.1; have ir2b := ir2.2
        refine lv_aload_n hx hb dX11_back_51 rfl (lv_at hl 0 rfl) ?_
        refine lv_iconst (v := 0) hx hb dX11_back_52 (by decide) ?_
        obtain ⟨n4, en4⟩ : ∃ z : Int, z = Int32.toInt 0 := ⟨_, rfl⟩
        have fn4 : n4 = 0 := by rw [en4]; rfl
        refine mput_7 S hK hH hS ⟨0, by decide, t0⟩ hT t0 en4 gm_1284 dX11_back_53 (fun q3 H locs eq3 hH hS hq1 => ?_)
        have hqq3 : qkm q3 := by rw [eq3]; exact qum_ok7 hq (iv_z en4 (iv_w (iv_c (by decide) : IV 0 0 0) (by decide)))
        have h0q3 : fr [7, 8] q q3 := by rw [eq3]; exact fr_up fr_rf (by decide)
        have wq3_7 : q3 7 = n4 := by rw [eq3]; rfl
        have wq3_8 : q3 8 = q 8 := by rw [eq3]; rfl
        refine lv_aload_n hx hb dX11_back_56 rfl (lv_at hl 0 rfl) ?_
        refine lv_iconst (v := 0) hx hb dX11_back_57 (by decide) ?_
        obtain ⟨n6, en6⟩ : ∃ z : Int, z = Int32.toInt 0 := ⟨_, rfl⟩
        have fn6 : n6 = 0 := by rw [en6]; rfl
        refine mput_8 S hK hH hS ⟨0, by decide, t0⟩ hT t0 en6 gm_1285 dX11_back_58 (fun q5 H locs eq5 hH hS hq1 => ?_)
        have hqq5 : qkm q5 := by rw [eq5]; exact qum_ok8 hqq3 (iv_z en6 (iv_w (iv_c (by decide) : IV 0 0 0) (by decide)))
        have h0q5 : fr [7, 8] q q5 := by rw [eq5]; exact fr_up h0q3 (by decide)
        have wq5_7 : q5 7 = q3 7 := by rw [eq5]; rfl
        have wq5_8 : q5 8 = n6 := by rw [eq5]; rfl
        refine lv_aload_n hx hb dX11_back_61 rfl (lv_at hl 0 rfl) ?_
        refine th_get S hK hH inG11 t0 km_0 rfl 52 (by decide) gm_1282 rfl rfl dX11_back_62 (fun v7 hv7 fv7 => ?_)
        obtain ⟨rf8, rfl, trf8⟩ := th_V.ref hv7
        refine lv_bipush (v := 40) hx hb dX11_back_65 (by decide) ?_
        refine th_iald S hK hH trf8 km_33 (th_in (hi := 40) (iv_w (iv_c (by decide) : IV 40 40 40) (by decide)) (by decide)) dX11_back_67 (fun v9 hv9 => ?_)
        obtain ⟨x10, rfl, ix10⟩ := th_V.int hv9
        exact th_iretM S hK hH hS hr hlocks ⟨_, rfl, ix10, hqq5, h0q5, (show q5 7 + q5 8 ≤ 40 by omega)⟩ dX11_back_68
      · skip
        have rlc1 : v22_2.toInt < (43 : Int) := iv_nle c1
        have ir11 : IV v22_2 0 42 := iv_uL iv22_2 (iv_c (by decide) : IV 43 43 43) (iv_nle c1) (by decide)
        have ir11a := ir11.1; have ir11b := ir11.2
        refine lv_aload_n hx hb dX11_back_28 rfl (lv_at hl 0 rfl) ?_
        refine th_get S hK hH inG11 t0 km_0 rfl 52 (by decide) gm_1282 rfl rfl dX11_back_29 (fun v12 hv12 fv12 => ?_)
        obtain ⟨rf13, rfl, trf13⟩ := th_V.ref hv12
        refine lv_iload_n hx hb dX11_back_32 rfl (lv_at hl 2 rfl) ?_
        refine lv_aload_n hx hb dX11_back_33 rfl (lv_at hl 0 rfl) ?_
        refine th_get S hK hH inG11 t0 km_0 rfl 67 (by decide) gm_1297 rfl rfl dX11_back_34 (fun v14 hv14 fv14 => ?_)
        obtain ⟨rf15, rfl, trf15⟩ := th_V.ref hv14
        refine lv_bipush (v := 43) hx hb dX11_back_37 (by decide) ?_
        refine lv_iload_n hx hb dX11_back_39 rfl (lv_at hl 1 rfl) ?_
        refine lv_imul hx hb dX11_back_40 ?_
        refine lv_topi (fun x16 ex16 => ?_)
        have ix16 : IV x16 0 86 := by rw [ex16]; exact iv_mul (iv_c (by decide) : IV 43 43 43) f22_y1 (by decide) (by decide)
        have ux16 : x16.toInt = (43 : Int) * y1.toInt := by rw [ex16]; exact iv_mulE (iv_corner ((iv_c (by decide) : IV 43 43 43)).1 ((iv_c (by decide) : IV 43 43 43)).2 (f22_y1).1 (f22_y1).2 (by decide))
        refine lv_iload_n hx hb dX11_back_41 rfl (lv_at hl 2 rfl) ?_
        refine lv_iadd hx hb dX11_back_42 ?_
        refine lv_topi (fun x17 ex17 => ?_)
        have ix17 : IV x17 0 128 := by rw [ex17]; exact iv_add ix16 ir11 (by decide)
        have ux17 : x17.toInt = x16.toInt + v22_2.toInt := by rw [ex17]; exact iv_addE (by have z1 := (ix16).1; have z2 := (ix16).2; have z3 := (ir11).1; have z4 := (ir11).2; omega)
        refine th_iald S hK hH trf15 km_43 (th_in (hi := 128) ix17 (by decide)) dX11_back_43 (fun v18 hv18 => ?_)
        obtain ⟨x19, rfl, ix19⟩ := th_V.int hv18
        refine th_iast S hK hH hS ⟨33, by decide, trf13⟩ trf13 km_33 (th_in (hi := 42) ir11 (by decide)) (th_iv ix19) dX11_back_44 (fun H locs hH hS hq1 => ?_)
        have f20 := fv12.kept (hq1 _ (th_ne t0 trf13 (by decide)))
        refine th_iinc S dX11_back_45 hl (k := 2) rfl (by decide) ir11 (by decide) (fun x21 ls ex21 ix21 hl => ?_)
        have hl : lv_has ls 3 [(2, .int x21), (0, .ref a0), (1, .int y1)] := hl
        have ix21 : IV x21 1 43 := ix21
        refine lv_goto (tgt := 22) hx hb dX11_back_48 (by decide) ?_
        exact ih22 H locs ls x21 (iv_w ix21 (by decide)) f22_y1 hH hS (lv_sub hl [1, 2, 0] rfl) (th_up iv22_2 ex21 (by decide) hn22)
  have J18 : ∀ (H : Heap) (locs : List Loc) (ls : Array Slot), th_H D cT T (km q) H → va_S (th_A T [0, 33]) s.heap H locs → lv_has ls 3 [] → W p l e (rmk 1 22) s m [.ref a0, .int y1].toArray below meth c H locs 0 0 (MQ below (th_QM D cT T (fun v q2 => ∃ r : Int32, v = some (.int r) ∧ IV r (-2147483648) 2147483647 ∧ qkm q2 ∧ fr [7, 8] q q2 ∧ (q2 7 + q2 8 ≤ 40)) [0, 33]) [.ref a0, .int y1].toArray s 0 0 (th_A T [0, 33])) (F0 m 18 ls []) := by
    intro H locs ls hH hS hl
    refine lv_iconst (v := (-1)) hx hb dX11_back_18 (by decide) ?_
    exact th_iretM S hK hH hS hr hlocks ⟨_, rfl, (iv_top _), hq, fr_rf, (show q 7 + q 8 ≤ 40 by omega)⟩ dX11_back_19
  have J0 : ∀ (H : Heap) (locs : List Loc) (ls : Array Slot), th_H D cT T (km q) H → va_S (th_A T [0, 33]) s.heap H locs → lv_has ls 3 [(0, .ref a0), (1, .int y1)] → W p l e (rmk 1 22) s m [.ref a0, .int y1].toArray below meth c H locs 0 0 (MQ below (th_QM D cT T (fun v q2 => ∃ r : Int32, v = some (.int r) ∧ IV r (-2147483648) 2147483647 ∧ qkm q2 ∧ fr [7, 8] q q2 ∧ (q2 7 + q2 8 ≤ 40)) [0, 33]) [.ref a0, .int y1].toArray s 0 0 (th_A T [0, 33])) (F0 m 0 ls []) := by
    intro H locs ls hH hS hl
    refine lv_iload_n hx hb dX11_back_0 rfl (lv_at hl 1 rfl) ?_
    refine lv_iconst (v := 0) hx hb dX11_back_1 (by decide) ?_
    refine lv_iconst (v := 2) hx hb dX11_back_2 (by decide) ?_
    refine th_callSp (n := 3) (As := [.int y1, .int 0, .int 2]) S hK hH hS (th_A.sub (by decide)) (m_X11_isIn l D cT T q hT hq (y1) j1 (0) (iv_top _) (2) (iv_top _)) gm_1618 gm_1616 gm_1617 gm_124 (by decide +kernel) ⟨rfl, rfl, Nat.le_of_ble_eq_true rfl, Nat.le_of_ble_eq_true rfl⟩ rfl hl.1 rfl (Nat.le_of_ble_eq_true rfl) dX11_back_3 ⟨Nat.zero_le _, Nat.zero_le _⟩ (fun x22 H locs ix22 ox22 hH hS hF1 => ?_)
    obtain ⟨ox22_0, ox22_1⟩ := ox22
    have ox22_0 : x22.toInt ≠ 0 → (0 : Int) ≤ y1.toInt ∧ y1.toInt ≤ (2 : Int) := ox22_0
    have ox22_1 : x22.toInt = 0 → y1.toInt < (0 : Int) ∨ (2 : Int) < y1.toInt := ox22_1
    have l1x22 := ix22.1; have l2x22 := ix22.2
    refine lv_if_eq (tgt := 18) hx hb dX11_back_6 (by decide) (fun c23 => ?_) (fun c23 => ?_)
    · skip
      have rlc23 : x22.toInt = (0 : Int) := congrArg Int32.toInt c23
      have ir24 : IV x22 0 0 := iv_eL c23 (iv_c (by decide) : IV 0 0 0)
      have ir24a := ir24.1; have ir24b := ir24.2
      exact J18 H locs ls  hH hS (lv_sub hl [] rfl)
    · skip
      have rlc23 : x22.toInt ≠ (0 : Int) := iv_ne c23
      have ir25 : IV x22 1 1 := iv_cutL ix22 (iv_c (by decide) : IV 0 0 0) c23 (by decide)
      have ir25a := ir25.1; have ir25b := ir25.2
      have ir26 : IV y1 0 2 := ((fun z => by have z1 := iv_ne z; have z2 : x22.toInt ≠ 0 := z1; have z4 := ((iv_c (by decide) : IV 0 0 0)).1; have z5 := ((iv_c (by decide) : IV 2 2 2)).2; exact ⟨by omega, by omega⟩) : ¬ x22 = 0 → IV y1 0 2) c23
      have ir26a := ir26.1; have ir26b := ir26.2
      refine lv_aload_n hx hb dX11_back_9 rfl (lv_at hl 0 rfl) ?_
      refine th_get S hK hH inG11 t0 km_0 rfl 68 (by decide) gm_1298 rfl rfl dX11_back_10 (fun v27 hv27 fv27 => ?_)
      obtain ⟨rf28, rfl, trf28⟩ := th_V.ref hv27
      refine lv_iload_n hx hb dX11_back_13 rfl (lv_at hl 1 rfl) ?_
      refine th_zald S hK hH trf28 km_44 (th_in (hi := 2) ir26 (by decide)) dX11_back_14 (fun v29 hv29 => ?_)
      obtain ⟨x30, rfl, ix30⟩ := th_V.int hv29
      refine lv_if_ne (tgt := 20) hx hb dX11_back_15 (by decide) (fun c31 => ?_) (fun c31 => ?_)
      · skip
        have rlc31 : x30.toInt ≠ (0 : Int) := iv_ne c31
        have ir32 : IV x30 1 1 := iv_cutL ix30 (iv_c (by decide) : IV 0 0 0) c31 (by decide)
        have ir32a := ir32.1; have ir32b := ir32.2
        refine lv_iconst (v := 0) hx hb dX11_back_20 (by decide) ?_
        refine lv_istore_n (lv' := [(2, .int 0), (0, .ref a0), (1, .int y1)]) hx hb dX11_back_21 rfl hl (by decide) rfl (fun ls hl => ?_)
        exact J22 ((43 + 1 - Int32.toInt 0).toNat + 1) H locs ls 0 (iv_w (iv_c (by decide) : IV 0 0 0) (by decide)) ir26 hH hS (lv_sub hl [1, 2, 0] rfl) (Nat.lt_succ_self _)
      · skip
        have rlc31 : x30.toInt = (0 : Int) := congrArg Int32.toInt c31
        have ir33 : IV x30 0 0 := iv_eL c31 (iv_c (by decide) : IV 0 0 0)
        have ir33a := ir33.1; have ir33b := ir33.2
        exact J18 H locs ls  hH hS (lv_sub hl [] rfl)
  exact J0 s.heap [] ls hH va_S.rf hl

set_option maxRecDepth 100000 in
theorem m_X11_about (l : Launch) (D : va_G) (cT : Nat → ClassId) (T : Nat → Option Nat) (q : Nat → Int) (hT : tokm T) (hq : qkm q) (a0 : Nat) (t0 : T a0 = some 0) (y1 : Int32) (j1 : IV y1 (-2147483648) 2147483647) : th_Met l D cT T (km q) yX11_about cX11_about 2 (some .int) (rmk 1 20) [.ref a0, .int y1] (th_R T (some (.inl (-2147483648, 2147483647)))) [] := by
  refine th_start (by decide) (Nat.le_of_ble_eq_true rfl) ?_
  intro p e s m below meth c ls S hK hH hr hlocks hnm hl
  have hx := S.1
  have hb := S.2.1
  have hl : lv_has ls 2 [(0, .ref a0), (1, .int y1)] := hl
  have J0 : ∀ (H : Heap) (locs : List Loc) (ls : Array Slot), th_H D cT T (km q) H → va_S (th_A T []) s.heap H locs → lv_has ls 2 [(0, .ref a0), (1, .int y1)] → W p l e (rmk 1 20) s m [.ref a0, .int y1].toArray below meth c H locs 0 0 (MQ below (th_Q D cT T (km q) (th_R T (some (.inl (-2147483648, 2147483647)))) []) [.ref a0, .int y1].toArray s 0 0 (th_A T [])) (F0 m 0 ls []) := by
    intro H locs ls hH hS hl
    refine lv_iload_n hx hb dX11_about_0 rfl (lv_at hl 1 rfl) ?_
    by_cases c1 : y1.toInt < 0 ∨ 14 < y1.toInt
    · refine lv_tableOut (tgt := 183) hx hb dX11_about_1 c1 (by decide) ?_
      refine lv_iconst (v := (-1)) hx hb dX11_about_183 (by decide) ?_
      exact th_iret S hK hH hS hr hlocks (th_R.i (iv_top _)) dX11_about_184
    · rcases (show y1.toInt = 0 ∨ y1.toInt = 1 ∨ y1.toInt = 2 ∨ y1.toInt = 3 ∨ y1.toInt = 4 ∨ y1.toInt = 5 ∨ y1.toInt = 6 ∨ y1.toInt = 7 ∨ y1.toInt = 8 ∨ y1.toInt = 9 ∨ y1.toInt = 10 ∨ y1.toInt = 11 ∨ y1.toInt = 12 ∨ y1.toInt = 13 ∨ y1.toInt = 14 by omega) with c1b | c1b | c1b | c1b | c1b | c1b | c1b | c1b | c1b | c1b | c1b | c1b | c1b | c1b | c1b
      · refine lv_tableIn (tgt := 76) (off := 75) hx hb dX11_about_1 (by omega) (by omega) (by rw [c1b]; rfl) (by decide) ?_
        refine lv_aload_n hx hb dX11_about_76 rfl (lv_at hl 0 rfl) ?_
        refine th_callVp (n := 0) (As := []) S hK hH hS (th_A.sub (by decide)) (m_X11_many l D cT T q hT hq a0 t0) gm_1229 gm_1226 gm_1228 gm_46 gm_124 (by decide +kernel) ⟨rfl, rfl, Nat.le_of_ble_eq_true rfl, Nat.le_of_ble_eq_true rfl⟩ t0 km_0 rfl rfl hl.1 rfl (Nat.le_of_ble_eq_true rfl) dX11_about_77 ⟨Nat.zero_le _, Nat.zero_le _⟩ (fun x2 H locs ix2 ox2 hH hS hF1 => ?_)
        have ox2 : x2.toInt = q 11 := ox2
        exact th_iret S hK hH hS hr hlocks (th_R.i (iv_top _)) dX11_about_80
      · refine lv_tableIn (tgt := 81) (off := 80) hx hb dX11_about_1 (by omega) (by omega) (by rw [c1b]; rfl) (by decide) ?_
        refine lv_aload_n hx hb dX11_about_81 rfl (lv_at hl 0 rfl) ?_
        refine th_get S hK hH inG11 t0 km_0 rfl 11 (by decide) gm_1241 rfl rfl dX11_about_82 (fun v3 hv3 fv3 => ?_)
        obtain ⟨rf4, rfl, trf4⟩ := th_V.ref hv3
        refine lv_aload_n hx hb dX11_about_85 rfl (lv_at hl 0 rfl) ?_
        refine th_get S hK hH inG11 t0 km_0 rfl 41 (by decide) gm_1271 rfl rfl dX11_about_86 (fun v5 hv5 fv5 => ?_)
        obtain ⟨x6, rfl, ix6⟩ := th_V.int hv5
        have kx6a : q 10 ≤ x6.toInt := ix6.1
        have kx6b : x6.toInt ≤ q 10 := ix6.2
        have ix6 : IV x6 0 1 := iv_w ix6 (qkm_10 hq)
        refine th_iald S hK hH trf4 km_3 (th_in (hi := 1) ix6 (by decide)) dX11_about_89 (fun v7 hv7 => ?_)
        obtain ⟨x8, rfl, ix8⟩ := th_bkA hv7 ix6 (by omega)
        have kx8a : q 16 ≤ x8.toInt := ix8.1
        have kx8b : x8.toInt ≤ q 16 := ix8.2
        have ix8 : IV x8 0 3 := iv_w ix8 (qkm_16 hq)
        exact th_iret S hK hH hS hr hlocks (th_R.i (iv_top _)) dX11_about_90
      · refine lv_tableIn (tgt := 91) (off := 90) hx hb dX11_about_1 (by omega) (by omega) (by rw [c1b]; rfl) (by decide) ?_
        refine lv_aload_n hx hb dX11_about_91 rfl (lv_at hl 0 rfl) ?_
        refine th_get S hK hH inG11 t0 km_0 rfl 13 (by decide) gm_1243 rfl rfl dX11_about_92 (fun v9 hv9 fv9 => ?_)
        obtain ⟨rf10, rfl, trf10⟩ := th_V.ref hv9
        refine lv_aload_n hx hb dX11_about_95 rfl (lv_at hl 0 rfl) ?_
        refine th_get S hK hH inG11 t0 km_0 rfl 41 (by decide) gm_1271 rfl rfl dX11_about_96 (fun v11 hv11 fv11 => ?_)
        obtain ⟨x12, rfl, ix12⟩ := th_V.int hv11
        have kx12a : q 10 ≤ x12.toInt := ix12.1
        have kx12b : x12.toInt ≤ q 10 := ix12.2
        have ix12 : IV x12 0 1 := iv_w ix12 (qkm_10 hq)
        refine th_iald S hK hH trf10 km_5 (th_in (hi := 1) ix12 (by decide)) dX11_about_99 (fun v13 hv13 => ?_)
        obtain ⟨x14, rfl, ix14⟩ := th_bkA hv13 ix12 (by omega)
        have kx14a : q 18 ≤ x14.toInt := ix14.1
        have kx14b : x14.toInt ≤ q 18 := ix14.2
        have ix14 : IV x14 0 8 := iv_w ix14 (qkm_18 hq)
        exact th_iret S hK hH hS hr hlocks (th_R.i (iv_top _)) dX11_about_100
      · refine lv_tableIn (tgt := 101) (off := 100) hx hb dX11_about_1 (by omega) (by omega) (by rw [c1b]; rfl) (by decide) ?_
        refine lv_aload_n hx hb dX11_about_101 rfl (lv_at hl 0 rfl) ?_
        refine th_get S hK hH inG11 t0 km_0 rfl 15 (by decide) gm_1245 rfl rfl dX11_about_102 (fun v15 hv15 fv15 => ?_)
        obtain ⟨rf16, rfl, trf16⟩ := th_V.ref hv15
        refine lv_aload_n hx hb dX11_about_105 rfl (lv_at hl 0 rfl) ?_
        refine th_get S hK hH inG11 t0 km_0 rfl 41 (by decide) gm_1271 rfl rfl dX11_about_106 (fun v17 hv17 fv17 => ?_)
        obtain ⟨x18, rfl, ix18⟩ := th_V.int hv17
        have kx18a : q 10 ≤ x18.toInt := ix18.1
        have kx18b : x18.toInt ≤ q 10 := ix18.2
        have ix18 : IV x18 0 1 := iv_w ix18 (qkm_10 hq)
        refine th_iald S hK hH trf16 km_7 (th_in (hi := 1) ix18 (by decide)) dX11_about_109 (fun v19 hv19 => ?_)
        obtain ⟨x20, rfl, ix20⟩ := th_V.int hv19
        exact th_iret S hK hH hS hr hlocks (th_R.i ix20) dX11_about_110
      · refine lv_tableIn (tgt := 111) (off := 110) hx hb dX11_about_1 (by omega) (by omega) (by rw [c1b]; rfl) (by decide) ?_
        refine lv_aload_n hx hb dX11_about_111 rfl (lv_at hl 0 rfl) ?_
        refine th_get S hK hH inG11 t0 km_0 rfl 52 (by decide) gm_1282 rfl rfl dX11_about_112 (fun v21 hv21 fv21 => ?_)
        obtain ⟨rf22, rfl, trf22⟩ := th_V.ref hv21
        refine lv_bipush (v := 40) hx hb dX11_about_115 (by decide) ?_
        refine th_iald S hK hH trf22 km_33 (th_in (hi := 40) (iv_w (iv_c (by decide) : IV 40 40 40) (by decide)) (by decide)) dX11_about_117 (fun v23 hv23 => ?_)
        obtain ⟨x24, rfl, ix24⟩ := th_V.int hv23
        exact th_iret S hK hH hS hr hlocks (th_R.i ix24) dX11_about_118
      · refine lv_tableIn (tgt := 119) (off := 118) hx hb dX11_about_1 (by omega) (by omega) (by rw [c1b]; rfl) (by decide) ?_
        refine lv_aload_n hx hb dX11_about_119 rfl (lv_at hl 0 rfl) ?_
        refine th_get S hK hH inG11 t0 km_0 rfl 52 (by decide) gm_1282 rfl rfl dX11_about_120 (fun v25 hv25 fv25 => ?_)
        obtain ⟨rf26, rfl, trf26⟩ := th_V.ref hv25
        refine lv_bipush (v := 41) hx hb dX11_about_123 (by decide) ?_
        refine th_iald S hK hH trf26 km_33 (th_in (hi := 41) (iv_w (iv_c (by decide) : IV 41 41 41) (by decide)) (by decide)) dX11_about_125 (fun v27 hv27 => ?_)
        obtain ⟨x28, rfl, ix28⟩ := th_V.int hv27
        exact th_iret S hK hH hS hr hlocks (th_R.i ix28) dX11_about_126
      · refine lv_tableIn (tgt := 127) (off := 126) hx hb dX11_about_1 (by omega) (by omega) (by rw [c1b]; rfl) (by decide) ?_
        refine lv_aload_n hx hb dX11_about_127 rfl (lv_at hl 0 rfl) ?_
        refine th_get S hK hH inG11 t0 km_0 rfl 52 (by decide) gm_1282 rfl rfl dX11_about_128 (fun v29 hv29 fv29 => ?_)
        obtain ⟨rf30, rfl, trf30⟩ := th_V.ref hv29
        refine lv_bipush (v := 42) hx hb dX11_about_131 (by decide) ?_
        refine th_iald S hK hH trf30 km_33 (th_in (hi := 42) (iv_w (iv_c (by decide) : IV 42 42 42) (by decide)) (by decide)) dX11_about_133 (fun v31 hv31 => ?_)
        obtain ⟨x32, rfl, ix32⟩ := th_V.int hv31
        exact th_iret S hK hH hS hr hlocks (th_R.i ix32) dX11_about_134
      · refine lv_tableIn (tgt := 135) (off := 134) hx hb dX11_about_1 (by omega) (by omega) (by rw [c1b]; rfl) (by decide) ?_
        refine lv_aload_n hx hb dX11_about_135 rfl (lv_at hl 0 rfl) ?_
        refine th_get S hK hH inG11 t0 km_0 rfl 52 (by decide) gm_1282 rfl rfl dX11_about_136 (fun v33 hv33 fv33 => ?_)
        obtain ⟨rf34, rfl, trf34⟩ := th_V.ref hv33
        refine lv_bipush (v := 39) hx hb dX11_about_139 (by decide) ?_
        refine th_iald S hK hH trf34 km_33 (th_in (hi := 39) (iv_w (iv_c (by decide) : IV 39 39 39) (by decide)) (by decide)) dX11_about_141 (fun v35 hv35 => ?_)
        obtain ⟨x36, rfl, ix36⟩ := th_V.int hv35
        exact th_iret S hK hH hS hr hlocks (th_R.i ix36) dX11_about_142
      · refine lv_tableIn (tgt := 143) (off := 142) hx hb dX11_about_1 (by omega) (by omega) (by rw [c1b]; rfl) (by decide) ?_
        refine lv_aload_n hx hb dX11_about_143 rfl (lv_at hl 0 rfl) ?_
        refine th_get S hK hH inG11 t0 km_0 rfl 54 (by decide) gm_1284 rfl rfl dX11_about_144 (fun v37 hv37 fv37 => ?_)
        obtain ⟨x38, rfl, ix38⟩ := th_V.int hv37
        have kx38a : q 7 ≤ x38.toInt := ix38.1
        have kx38b : x38.toInt ≤ q 7 := ix38.2
        have ix38 : IV x38 0 40 := iv_w ix38 (qkm_7 hq)
        exact th_iret S hK hH hS hr hlocks (th_R.i (iv_top _)) dX11_about_147
      · refine lv_tableIn (tgt := 148) (off := 147) hx hb dX11_about_1 (by omega) (by omega) (by rw [c1b]; rfl) (by decide) ?_
        refine lv_aload_n hx hb dX11_about_148 rfl (lv_at hl 0 rfl) ?_
        refine th_get S hK hH inG11 t0 km_0 rfl 55 (by decide) gm_1285 rfl rfl dX11_about_149 (fun v39 hv39 fv39 => ?_)
        obtain ⟨x40, rfl, ix40⟩ := th_V.int hv39
        have kx40a : q 8 ≤ x40.toInt := ix40.1
        have kx40b : x40.toInt ≤ q 8 := ix40.2
        have ix40 : IV x40 0 40 := iv_w ix40 (qkm_8 hq)
        exact th_iret S hK hH hS hr hlocks (th_R.i (iv_top _)) dX11_about_152
      · refine lv_tableIn (tgt := 153) (off := 152) hx hb dX11_about_1 (by omega) (by omega) (by rw [c1b]; rfl) (by decide) ?_
        refine lv_aload_n hx hb dX11_about_153 rfl (lv_at hl 0 rfl) ?_
        refine th_get S hK hH inG11 t0 km_0 rfl 65 (by decide) gm_1295 rfl rfl dX11_about_154 (fun v41 hv41 fv41 => ?_)
        obtain ⟨x42, rfl, ix42⟩ := th_V.int hv41
        exact th_iret S hK hH hS hr hlocks (th_R.i (iv_top _)) dX11_about_157
      · refine lv_tableIn (tgt := 158) (off := 157) hx hb dX11_about_1 (by omega) (by omega) (by rw [c1b]; rfl) (by decide) ?_
        refine lv_aload_n hx hb dX11_about_158 rfl (lv_at hl 0 rfl) ?_
        refine th_get S hK hH inG11 t0 km_0 rfl 66 (by decide) gm_1296 rfl rfl dX11_about_159 (fun v43 hv43 fv43 => ?_)
        obtain ⟨x44, rfl, ix44⟩ := th_V.int hv43
        have kx44a : q 9 ≤ x44.toInt := ix44.1
        have kx44b : x44.toInt ≤ q 9 := ix44.2
        have ix44 : IV x44 0 100000 := iv_w ix44 (qkm_9 hq)
        exact th_iret S hK hH hS hr hlocks (th_R.i (iv_top _)) dX11_about_162
      · refine lv_tableIn (tgt := 163) (off := 162) hx hb dX11_about_1 (by omega) (by omega) (by rw [c1b]; rfl) (by decide) ?_
        refine lv_aload_n hx hb dX11_about_163 rfl (lv_at hl 0 rfl) ?_
        refine th_get S hK hH inG11 t0 km_0 rfl 2 (by decide) gm_1232 rfl rfl dX11_about_164 (fun v45 hv45 fv45 => ?_)
        obtain ⟨x46, rfl, ix46⟩ := th_V.int hv45
        exact th_iret S hK hH hS hr hlocks (th_R.i (iv_top _)) dX11_about_167
      · refine lv_tableIn (tgt := 168) (off := 167) hx hb dX11_about_1 (by omega) (by omega) (by rw [c1b]; rfl) (by decide) ?_
        refine lv_aload_n hx hb dX11_about_168 rfl (lv_at hl 0 rfl) ?_
        refine th_get S hK hH inG11 t0 km_0 rfl 16 (by decide) gm_1246 rfl rfl dX11_about_169 (fun v47 hv47 fv47 => ?_)
        obtain ⟨rf48, rfl, trf48⟩ := th_V.ref hv47
        refine lv_aload_n hx hb dX11_about_172 rfl (lv_at hl 0 rfl) ?_
        refine th_get S hK hH inG11 t0 km_0 rfl 41 (by decide) gm_1271 rfl rfl dX11_about_173 (fun v49 hv49 fv49 => ?_)
        obtain ⟨x50, rfl, ix50⟩ := th_V.int hv49
        have kx50a : q 10 ≤ x50.toInt := ix50.1
        have kx50b : x50.toInt ≤ q 10 := ix50.2
        have ix50 : IV x50 0 1 := iv_w ix50 (qkm_10 hq)
        refine th_iald S hK hH trf48 km_8 (th_in (hi := 1) ix50 (by decide)) dX11_about_176 (fun v51 hv51 => ?_)
        obtain ⟨x52, rfl, ix52⟩ := th_bkA hv51 ix50 (by omega)
        have kx52a : q 25 ≤ x52.toInt := ix52.1
        have kx52b : x52.toInt ≤ q 25 := ix52.2
        have ix52 : IV x52 0 90 := iv_w ix52 (qkm_25 hq)
        exact th_iret S hK hH hS hr hlocks (th_R.i (iv_top _)) dX11_about_177
      · refine lv_tableIn (tgt := 178) (off := 177) hx hb dX11_about_1 (by omega) (by omega) (by rw [c1b]; rfl) (by decide) ?_
        refine lv_aload_n hx hb dX11_about_178 rfl (lv_at hl 0 rfl) ?_
        refine th_get S hK hH inG11 t0 km_0 rfl 59 (by decide) gm_1289 rfl rfl dX11_about_179 (fun v53 hv53 fv53 => ?_)
        obtain ⟨x54, rfl, ix54⟩ := th_V.int hv53
        exact th_iret S hK hH hS hr hlocks (th_R.i (iv_top _)) dX11_about_182
  exact J0 s.heap [] ls hH va_S.rf hl

set_option maxRecDepth 100000 in
theorem m_X11_feed (l : Launch) (D : va_G) (cT : Nat → ClassId) (T : Nat → Option Nat) (q : Nat → Int) (hT : tokm T) (hq : qkm q) (a0 : Nat) (t0 : T a0 = some 0) (y1 : Int32) (j1 : IV y1 (-2147483648) 2147483647) (y2 : Int32) (j2 : IV y2 (-2147483648) 2147483647) (y3 : Int32) (j3 : IV y3 (-2147483648) 2147483647) (y4 : Int32) (j4 : IV y4 (-2147483648) 2147483647) (y5 : Int32) (j5 : IV y5 (-2147483648) 2147483647) : th_Met l D cT T (km q) yX11_feed cX11_feed 8 (some .int) (rmk 0 0) [.ref a0, .int y1, .int y2, .int y3, .int y4, .int y5] (th_R T (some (.inl (-1, 1600)))) [0, 1] := by
  refine th_start (by decide) (Nat.le_of_ble_eq_true rfl) ?_
  intro p e s m below meth c ls S hK hH hr hlocks hnm hl
  have hx := S.1
  have hb := S.2.1
  have hl : lv_has ls 8 [(0, .ref a0), (1, .int y1), (2, .int y2), (3, .int y3), (4, .int y4), (5, .int y5)] := hl
  have J18 : ∀ (n : Nat) (H : Heap) (locs : List Loc) (ls : Array Slot) (v18_6 : Int32) (u18_a0_2 : Int32), IV v18_6 0 20 → IV u18_a0_2 0 1580 → th_fa D H a0 11 2 (.int u18_a0_2) → th_H D cT T (km q) H → va_S (th_A T [0, 1]) s.heap H locs → lv_has ls 8 [(0, .ref a0), (1, .int y1), (2, .int y2), (3, .int y3), (4, .int y4), (5, .int y5), (6, .int v18_6)] → (20 + 1 - Int32.toInt v18_6).toNat < n → W p l e (rmk 0 0) s m [.ref a0, .int y1, .int y2, .int y3, .int y4, .int y5].toArray below meth c H locs 0 0 (MQ below (th_Q D cT T (km q) (th_R T (some (.inl (-1, 1600)))) [0, 1]) [.ref a0, .int y1, .int y2, .int y3, .int y4, .int y5].toArray s 0 0 (th_A T [0, 1])) (F0 m 18 ls []) := by
    intro n
    induction n with
    | zero => intro H locs ls v18_6 u18_a0_2 iv18_6 iu18_a0_2 gu18_a0_2 hH hS hl hn; exact absurd hn (Nat.not_lt_zero _)
    | succ n ih18 =>
      intro H locs ls v18_6 u18_a0_2 iv18_6 iu18_a0_2 gu18_a0_2 hH hS hl hn18
      have J71 : ∀ (H : Heap) (locs : List Loc) (ls : Array Slot) (w71_0 : Int32) (u71_a0_2 : Int32), IV w71_0 (-2147483648) 2147483647 → IV u71_a0_2 0 1580 → th_fa D H a0 11 2 (.int u71_a0_2) → IV v18_6 0 19 → th_H D cT T (km q) H → va_S (th_A T [0, 1]) s.heap H locs → lv_has ls 8 [(0, .ref a0), (1, .int y1), (2, .int y2), (3, .int y3), (4, .int y4), (5, .int y5), (6, .int v18_6)] → W p l e (rmk 0 0) s m [.ref a0, .int y1, .int y2, .int y3, .int y4, .int y5].toArray below meth c H locs 0 0 (MQ below (th_Q D cT T (km q) (th_R T (some (.inl (-1, 1600)))) [0, 1]) [.ref a0, .int y1, .int y2, .int y3, .int y4, .int y5].toArray s 0 0 (th_A T [0, 1])) (F0 m 71 ls [.int w71_0]) := by
        intro H locs ls w71_0 u71_a0_2 iw71_0 iu71_a0_2 gu71_a0_2 f71_v18_6 hH hS hl
        refine lv_istore (lv' := [(7, .int w71_0), (0, .ref a0), (1, .int y1), (2, .int y2), (3, .int y3), (4, .int y4), (5, .int y5), (6, .int v18_6)]) hx hb dX11_feed_71 hl (by decide) rfl (fun ls hl => ?_)
        refine lv_aload_n hx hb dX11_feed_73 rfl (lv_at hl 1 rfl) ?_
        refine th_get S hK hH inG11 t0 km_0 rfl 0 (by decide) gm_1230 rfl rfl dX11_feed_74 (fun v1 hv1 fv1 => ?_)
        obtain ⟨rf2, rfl, trf2⟩ := th_V.ref hv1
        refine lv_aload_n hx hb dX11_feed_77 rfl (lv_at hl 1 rfl) ?_
        refine th_getK S hK gu71_a0_2 inG11 rfl (by decide) gm_1232 rfl dX11_feed_78 ?_
        refine lv_iload hx hb dX11_feed_81 (lv_at hl 7 rfl) ?_
        refine lv_iadd hx hb dX11_feed_83 ?_
        refine lv_topi (fun x4 ex4 => ?_)
        have ix4 : IV x4 0 1599 := by rw [ex4]; exact iv_add iu71_a0_2 f71_v18_6 (by decide)
        have ux4 : x4.toInt = u71_a0_2.toInt + v18_6.toInt := by rw [ex4]; exact iv_addE (by have z1 := (iu71_a0_2).1; have z2 := (iu71_a0_2).2; have z3 := (f71_v18_6).1; have z4 := (f71_v18_6).2; omega)
        refine lv_iload hx hb dX11_feed_84 (lv_at hl 0 rfl) ?_
        refine lv_bipush (v := 24) hx hb dX11_feed_86 (by decide) ?_
        refine lv_bipush (v := 8) hx hb dX11_feed_88 (by decide) ?_
        refine lv_iload hx hb dX11_feed_90 (lv_at hl 7 rfl) ?_
        refine lv_iconst (v := 3) hx hb dX11_feed_92 (by decide) ?_
        refine lv_iand hx hb dX11_feed_93 ?_
        refine lv_topi (fun x5 ex5 => ?_)
        have ix5 : IV x5 0 3 := by rw [ex5]; exact iv_and (h2 := 3) (iv_w (iv_c (by decide) : IV 3 3 3) (by decide)) (by decide)
        refine lv_imul hx hb dX11_feed_94 ?_
        refine lv_topi (fun x6 ex6 => ?_)
        have ix6 : IV x6 0 24 := by rw [ex6]; exact iv_mul (iv_c (by decide) : IV 8 8 8) ix5 (by decide) (by decide)
        have ux6 : x6.toInt = (8 : Int) * x5.toInt := by rw [ex6]; exact iv_mulE (iv_corner ((iv_c (by decide) : IV 8 8 8)).1 ((iv_c (by decide) : IV 8 8 8)).2 (ix5).1 (ix5).2 (by decide))
        refine lv_isub hx hb dX11_feed_95 ?_
        refine lv_topi (fun x7 ex7 => ?_)
        have ix7 : IV x7 0 24 := by rw [ex7]; exact iv_sub (iv_c (by decide) : IV 24 24 24) ix6 (by decide)
        have ux7 : x7.toInt = (24 : Int) - x6.toInt := by rw [ex7]; exact iv_subE (by have z1 := ((iv_c (by decide) : IV 24 24 24)).1; have z2 := ((iv_c (by decide) : IV 24 24 24)).2; have z3 := (ix6).1; have z4 := (ix6).2; omega)
        refine lv_ishr hx hb dX11_feed_96 ?_
        refine lv_topi (fun x8 ex8 => ?_)
        have ix8 := iv_top x8
        refine lv_i2b (v := _) hx hb dX11_feed_97 rfl ?_
        refine lv_topi (fun x9 ex9 => ?_)
        have ix9 : IV x9 (-128) 127 := by rw [ex9]; exact iv_byte _
        refine th_bast S hK hH hS ⟨1, by decide, trf2⟩ trf2 km_1 (th_in (hi := 1599) ix4 (by decide)) (fun z => th_iv (iv_nbyte z)) dX11_feed_98 (fun H locs hH hS hq1 => ?_)
        have f10 := gu71_a0_2.kept (hq1 _ (th_ne t0 trf2 (by decide)))
        refine th_iinc S dX11_feed_99 hl (k := 7) rfl (by decide) f71_v18_6 (by decide) (fun x11 ls ex11 ix11 hl => ?_)
        have hl : lv_has ls 8 [(6, .int x11), (7, .int w71_0), (0, .ref a0), (1, .int y1), (2, .int y2), (3, .int y3), (4, .int y4), (5, .int y5)] := hl
        have ix11 : IV x11 1 20 := ix11
        refine lv_goto (tgt := 18) hx hb dX11_feed_102 (by decide) ?_
        exact ih18 H locs ls x11 u71_a0_2 (iv_w ix11 (by decide)) iu71_a0_2 f10 hH hS (lv_sub hl [2, 3, 4, 5, 6, 7, 0] rfl) (th_up iv18_6 ex11 (by decide) hn18)
      have l1v18_6 := iv18_6.1; have l2v18_6 := iv18_6.2
      refine lv_iload hx hb dX11_feed_18 (lv_at hl 6 rfl) ?_
      refine lv_bipush (v := 20) hx hb dX11_feed_20 (by decide) ?_
      refine lv_icmp_ge (tgt := 105) hx hb dX11_feed_22 (by decide) (fun c12 => ?_) (fun c12 => ?_)
      · skip
        have rlc12 : (20 : Int) ≤ v18_6.toInt := iv_le c12
        have ir13 : IV v18_6 20 20 := iv_vR (iv_c (by decide) : IV 20 20 20) iv18_6 (iv_le c12) (by decide)
        have ir13a := ir13.1; have ir13b := ir13.2
        refine lv_aload_n hx hb dX11_feed_105 rfl (lv_at hl 0 rfl) ?_
        refine lv_dup hx hb dX11_feed_106 rfl ?_
        refine th_getK S hK gu18_a0_2 inG11 rfl (by decide) gm_1232 rfl dX11_feed_107 ?_
        refine lv_bipush (v := 20) hx hb dX11_feed_110 (by decide) ?_
        refine lv_iadd hx hb dX11_feed_112 ?_
        refine lv_topi (fun x15 ex15 => ?_)
        have ix15 : IV x15 20 1600 := by rw [ex15]; exact iv_add iu18_a0_2 (iv_c (by decide) : IV 20 20 20) (by decide)
        have ux15 : x15.toInt = u18_a0_2.toInt + (20 : Int) := by rw [ex15]; exact iv_addE (by have z1 := (iu18_a0_2).1; have z2 := (iu18_a0_2).2; have z3 := ((iv_c (by decide) : IV 20 20 20)).1; have z4 := ((iv_c (by decide) : IV 20 20 20)).2; omega)
        refine th_put S hK hH hS ⟨0, by decide, t0⟩ inG11 tyX11 tyX11_ok nmX11 t0 km_0 rfl 2 (by decide) gm_1232 rfl rfl rfl rfl (th_iv (iv_w ix15 (by decide))) (fun vs h => nmR_set h.2.2 (by decide) rfl) (ty := .int) (by decide +kernel) rfl rfl dX11_feed_113 (fun H locs hH hS hq1 hp1 => ?_)
        have f16 := hp1.1
        refine lv_aload_n hx hb dX11_feed_116 rfl (lv_at hl 0 rfl) ?_
        refine th_getK S hK f16 inG11 rfl (by decide) gm_1232 rfl dX11_feed_117 ?_
        exact th_iret S hK hH hS hr hlocks (th_R.i (iv_w ix15 (by decide))) dX11_feed_120
      · skip
        have rlc12 : v18_6.toInt < (20 : Int) := iv_nle c12
        have ir18 : IV v18_6 0 19 := iv_uL iv18_6 (iv_c (by decide) : IV 20 20 20) (iv_nle c12) (by decide)
        have ir18a := ir18.1; have ir18b := ir18.2
        refine lv_iload hx hb dX11_feed_25 (lv_at hl 6 rfl) ?_
        refine lv_iconst (v := 4) hx hb dX11_feed_27 (by decide) ?_
        refine lv_icmp_ge (tgt := 35) hx hb dX11_feed_28 (by decide) (fun c19 => ?_) (fun c19 => ?_)
        · skip
          have rlc19 : (4 : Int) ≤ v18_6.toInt := iv_le c19
          have ir20 : IV v18_6 4 19 := iv_vR (iv_c (by decide) : IV 4 4 4) ir18 (iv_le c19) (by decide)
          have ir20a := ir20.1; have ir20b := ir20.2
          refine lv_iload hx hb dX11_feed_35 (lv_at hl 6 rfl) ?_
          refine lv_bipush (v := 8) hx hb dX11_feed_37 (by decide) ?_
          refine lv_icmp_ge (tgt := 46) hx hb dX11_feed_39 (by decide) (fun c21 => ?_) (fun c21 => ?_)
          · skip
            have rlc21 : (8 : Int) ≤ v18_6.toInt := iv_le c21
            have ir22 : IV v18_6 8 19 := iv_vR (iv_c (by decide) : IV 8 8 8) ir20 (iv_le c21) (by decide)
            have ir22a := ir22.1; have ir22b := ir22.2
            refine lv_iload hx hb dX11_feed_46 (lv_at hl 6 rfl) ?_
            refine lv_bipush (v := 12) hx hb dX11_feed_48 (by decide) ?_
            refine lv_icmp_ge (tgt := 57) hx hb dX11_feed_50 (by decide) (fun c23 => ?_) (fun c23 => ?_)
            · skip
              have rlc23 : (12 : Int) ≤ v18_6.toInt := iv_le c23
              have ir24 : IV v18_6 12 19 := iv_vR (iv_c (by decide) : IV 12 12 12) ir22 (iv_le c23) (by decide)
              have ir24a := ir24.1; have ir24b := ir24.2
              refine lv_iload hx hb dX11_feed_57 (lv_at hl 6 rfl) ?_
              refine lv_bipush (v := 16) hx hb dX11_feed_59 (by decide) ?_
              refine lv_icmp_ge (tgt := 69) hx hb dX11_feed_61 (by decide) (fun c25 => ?_) (fun c25 => ?_)
              · skip
                have rlc25 : (16 : Int) ≤ v18_6.toInt := iv_le c25
                have ir26 : IV v18_6 16 19 := iv_vR (iv_c (by decide) : IV 16 16 16) ir24 (iv_le c25) (by decide)
                have ir26a := ir26.1; have ir26b := ir26.2
                refine lv_iload hx hb dX11_feed_69 (lv_at hl 5 rfl) ?_
                exact J71 H locs ls y5 u18_a0_2 j5 iu18_a0_2 gu18_a0_2 (iv_w ir26 (by decide)) hH hS (lv_sub hl [0, 1, 2, 3, 4, 5, 6] rfl)
              · skip
                have rlc25 : v18_6.toInt < (16 : Int) := iv_nle c25
                have ir27 : IV v18_6 12 15 := iv_uL ir24 (iv_c (by decide) : IV 16 16 16) (iv_nle c25) (by decide)
                have ir27a := ir27.1; have ir27b := ir27.2
                refine lv_iload hx hb dX11_feed_64 (lv_at hl 4 rfl) ?_
                refine lv_goto (tgt := 71) hx hb dX11_feed_66 (by decide) ?_
                exact J71 H locs ls y4 u18_a0_2 j4 iu18_a0_2 gu18_a0_2 (iv_w ir27 (by decide)) hH hS (lv_sub hl [0, 1, 2, 3, 4, 5, 6] rfl)
            · skip
              have rlc23 : v18_6.toInt < (12 : Int) := iv_nle c23
              have ir28 : IV v18_6 8 11 := iv_uL ir22 (iv_c (by decide) : IV 12 12 12) (iv_nle c23) (by decide)
              have ir28a := ir28.1; have ir28b := ir28.2
              refine lv_iload_n hx hb dX11_feed_53 rfl (lv_at hl 3 rfl) ?_
              refine lv_goto (tgt := 71) hx hb dX11_feed_54 (by decide) ?_
              exact J71 H locs ls y3 u18_a0_2 j3 iu18_a0_2 gu18_a0_2 (iv_w ir28 (by decide)) hH hS (lv_sub hl [0, 1, 2, 3, 4, 5, 6] rfl)
          · skip
            have rlc21 : v18_6.toInt < (8 : Int) := iv_nle c21
            have ir29 : IV v18_6 4 7 := iv_uL ir20 (iv_c (by decide) : IV 8 8 8) (iv_nle c21) (by decide)
            have ir29a := ir29.1; have ir29b := ir29.2
            refine lv_iload_n hx hb dX11_feed_42 rfl (lv_at hl 2 rfl) ?_
            refine lv_goto (tgt := 71) hx hb dX11_feed_43 (by decide) ?_
            exact J71 H locs ls y2 u18_a0_2 j2 iu18_a0_2 gu18_a0_2 (iv_w ir29 (by decide)) hH hS (lv_sub hl [0, 1, 2, 3, 4, 5, 6] rfl)
        · skip
          have rlc19 : v18_6.toInt < (4 : Int) := iv_nle c19
          have ir30 : IV v18_6 0 3 := iv_uL ir18 (iv_c (by decide) : IV 4 4 4) (iv_nle c19) (by decide)
          have ir30a := ir30.1; have ir30b := ir30.2
          refine lv_iload_n hx hb dX11_feed_31 rfl (lv_at hl 1 rfl) ?_
          refine lv_goto (tgt := 71) hx hb dX11_feed_32 (by decide) ?_
          exact J71 H locs ls y1 u18_a0_2 j1 iu18_a0_2 gu18_a0_2 (iv_w ir30 (by decide)) hH hS (lv_sub hl [0, 1, 2, 3, 4, 5, 6] rfl)
  have J0 : ∀ (H : Heap) (locs : List Loc) (ls : Array Slot), th_H D cT T (km q) H → va_S (th_A T [0, 1]) s.heap H locs → lv_has ls 8 [(0, .ref a0), (1, .int y1), (2, .int y2), (3, .int y3), (4, .int y4), (5, .int y5)] → W p l e (rmk 0 0) s m [.ref a0, .int y1, .int y2, .int y3, .int y4, .int y5].toArray below meth c H locs 0 0 (MQ below (th_Q D cT T (km q) (th_R T (some (.inl (-1, 1600)))) [0, 1]) [.ref a0, .int y1, .int y2, .int y3, .int y4, .int y5].toArray s 0 0 (th_A T [0, 1])) (F0 m 0 ls []) := by
    intro H locs ls hH hS hl
    refine lv_aload_n hx hb dX11_feed_0 rfl (lv_at hl 0 rfl) ?_
    refine th_get S hK hH inG11 t0 km_0 rfl 2 (by decide) gm_1232 rfl rfl dX11_feed_1 (fun v31 hv31 fv31 => ?_)
    obtain ⟨x32, rfl, ix32⟩ := th_V.int hv31
    refine lv_bipush (v := 20) hx hb dX11_feed_4 (by decide) ?_
    refine lv_iadd hx hb dX11_feed_6 ?_
    refine lv_topi (fun x33 ex33 => ?_)
    have ix33 : IV x33 20 1620 := by rw [ex33]; exact iv_add ix32 (iv_c (by decide) : IV 20 20 20) (by decide)
    have ux33 : x33.toInt = x32.toInt + (20 : Int) := by rw [ex33]; exact iv_addE (by have z1 := (ix32).1; have z2 := (ix32).2; have z3 := ((iv_c (by decide) : IV 20 20 20)).1; have z4 := ((iv_c (by decide) : IV 20 20 20)).2; omega)
    refine lv_sipush (v := 1600) hx hb dX11_feed_7 (by decide) ?_
    refine lv_icmp_le (tgt := 15) hx hb dX11_feed_10 (by decide) (fun c34 => ?_) (fun c34 => ?_)
    · skip
      have rlc34 : x33.toInt ≤ (1600 : Int) := iv_le c34
      have ir35 : IV x33 20 1600 := iv_vL ix33 (iv_c (by decide) : IV 1600 1600 1600) (iv_le c34) (by decide)
      have ir35a := ir35.1; have ir35b := ir35.2
      have z1 := ir35.1; have z2 := ir35.2; have z3 := (ix32).1; have z4 := (ix32).2
      have ir36 : IV x32 0 1580 := ⟨by omega, by omega⟩
      refine lv_iconst (v := 0) hx hb dX11_feed_15 (by decide) ?_
      refine lv_istore (lv' := [(6, .int 0), (0, .ref a0), (1, .int y1), (2, .int y2), (3, .int y3), (4, .int y4), (5, .int y5)]) hx hb dX11_feed_16 hl (by decide) rfl (fun ls hl => ?_)
      exact J18 ((20 + 1 - Int32.toInt 0).toNat + 1) H locs ls 0 x32 (iv_w (iv_c (by decide) : IV 0 0 0) (by decide)) ir36 fv31 hH hS (lv_sub hl [1, 2, 3, 4, 5, 6, 0] rfl) (Nat.lt_succ_self _)
    · skip
      have rlc34 : (1600 : Int) < x33.toInt := iv_nle c34
      have ir37 : IV x33 1601 1620 := iv_uR (iv_c (by decide) : IV 1600 1600 1600) ix33 (iv_nle c34) (by decide)
      have ir37a := ir37.1; have ir37b := ir37.2
      have z1 := ir37.1; have z2 := ir37.2; have z3 := (ix32).1; have z4 := (ix32).2
      have ir38 : IV x32 1581 1600 := ⟨by omega, by omega⟩
      refine lv_iconst (v := (-1)) hx hb dX11_feed_13 (by decide) ?_
      exact th_iret S hK hH hS hr hlocks (th_R.i (iv_w (iv_c (by decide) : IV (-1) (-1) (-1)) (by decide))) dX11_feed_14
  exact J0 s.heap [] ls hH va_S.rf hl
