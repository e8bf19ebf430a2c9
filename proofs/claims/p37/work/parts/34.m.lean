theorem dX10_lies_0 : decode cX10_lies 0 = .ok (.iload_n 1, 1) := by decide +kernel
theorem dX10_lies_1 : decode cX10_lies 1 = .ok (.ifCond .lt 19, 3) := by decide +kernel
theorem dX10_lies_4 : decode cX10_lies 4 = .ok (.iload_n 1, 1) := by decide +kernel
theorem dX10_lies_5 : decode cX10_lies 5 = .ok (.aload_n 0, 1) := by decide +kernel
theorem dX10_lies_6 : decode cX10_lies 6 = .ok (.getfield 60, 3) := by decide +kernel
theorem dX10_lies_9 : decode cX10_lies 9 = .ok (.getfield 108, 3) := by decide +kernel
theorem dX10_lies_12 : decode cX10_lies 12 = .ok (.if_icmp .ge 8, 3) := by decide +kernel
theorem dX10_lies_15 : decode cX10_lies 15 = .ok (.iload_n 1, 1) := by decide +kernel
theorem dX10_lies_16 : decode cX10_lies 16 = .ok (.iconst 4, 1) := by decide +kernel
theorem dX10_lies_17 : decode cX10_lies 17 = .ok (.if_icmp .lt 7, 3) := by decide +kernel
theorem dX10_lies_20 : decode cX10_lies 20 = .ok (.iconst (-1), 1) := by decide +kernel
theorem dX10_lies_21 : decode cX10_lies 21 = .ok (.goto 12, 3) := by decide +kernel
theorem dX10_lies_24 : decode cX10_lies 24 = .ok (.aload_n 0, 1) := by decide +kernel
theorem dX10_lies_25 : decode cX10_lies 25 = .ok (.getfield 60, 3) := by decide +kernel
theorem dX10_lies_28 : decode cX10_lies 28 = .ok (.getfield 243, 3) := by decide +kernel
theorem dX10_lies_31 : decode cX10_lies 31 = .ok (.iload_n 1, 1) := by decide +kernel
theorem dX10_lies_32 : decode cX10_lies 32 = .ok (.iaload, 1) := by decide +kernel
theorem dX10_lies_33 : decode cX10_lies 33 = .ok (.ireturn, 1) := by decide +kernel
theorem dX10_isAmount_0 : decode cX10_isAmount 0 = .ok (.iload_n 0, 1) := by decide +kernel
theorem dX10_isAmount_1 : decode cX10_isAmount 1 = .ok (.ifCond .lt 13, 3) := by decide +kernel
theorem dX10_isAmount_4 : decode cX10_isAmount 4 = .ok (.iload_n 0, 1) := by decide +kernel
theorem dX10_isAmount_5 : decode cX10_isAmount 5 = .ok (.bipush 9, 2) := by decide +kernel
theorem dX10_isAmount_7 : decode cX10_isAmount 7 = .ok (.if_icmp .gt 7, 3) := by decide +kernel
theorem dX10_isAmount_10 : decode cX10_isAmount 10 = .ok (.iconst 1, 1) := by decide +kernel
theorem dX10_isAmount_11 : decode cX10_isAmount 11 = .ok (.goto 4, 3) := by decide +kernel
theorem dX10_isAmount_14 : decode cX10_isAmount 14 = .ok (.iconst 0, 1) := by decide +kernel
theorem dX10_isAmount_15 : decode cX10_isAmount 15 = .ok (.ireturn, 1) := by decide +kernel
theorem dX10_isTrialHunger_0 : decode cX10_isTrialHunger 0 = .ok (.iload_n 0, 1) := by decide +kernel
theorem dX10_isTrialHunger_1 : decode cX10_isTrialHunger 1 = .ok (.iconst 1, 1) := by decide +kernel
theorem dX10_isTrialHunger_2 : decode cX10_isTrialHunger 2 = .ok (.if_icmp .lt 13, 3) := by decide +kernel
theorem dX10_isTrialHunger_5 : decode cX10_isTrialHunger 5 = .ok (.iload_n 0, 1) := by decide +kernel
theorem dX10_isTrialHunger_6 : decode cX10_isTrialHunger 6 = .ok (.bipush 99, 2) := by decide +kernel
theorem dX10_isTrialHunger_8 : decode cX10_isTrialHunger 8 = .ok (.if_icmp .gt 7, 3) := by decide +kernel
theorem dX10_isTrialHunger_11 : decode cX10_isTrialHunger 11 = .ok (.iconst 1, 1) := by decide +kernel
theorem dX10_isTrialHunger_12 : decode cX10_isTrialHunger 12 = .ok (.goto 4, 3) := by decide +kernel
theorem dX10_isTrialHunger_15 : decode cX10_isTrialHunger 15 = .ok (.iconst 0, 1) := by decide +kernel
theorem dX10_isTrialHunger_16 : decode cX10_isTrialHunger 16 = .ok (.ireturn, 1) := by decide +kernel
theorem dX10_trial_0 : decode cX10_trial 0 = .ok (.iload_n 1, 1) := by decide +kernel
theorem dX10_trial_1 : decode cX10_trial 1 = .ok (.invokestatic 246, 3) := by decide +kernel
theorem dX10_trial_4 : decode cX10_trial 4 = .ok (.ifCond .eq 25, 3) := by decide +kernel
theorem dX10_trial_7 : decode cX10_trial 7 = .ok (.iload_n 2, 1) := by decide +kernel
theorem dX10_trial_8 : decode cX10_trial 8 = .ok (.invokestatic 246, 3) := by decide +kernel
theorem dX10_trial_11 : decode cX10_trial 11 = .ok (.ifCond .eq 18, 3) := by decide +kernel
theorem dX10_trial_14 : decode cX10_trial 14 = .ok (.iload_n 3, 1) := by decide +kernel
theorem dX10_trial_15 : decode cX10_trial 15 = .ok (.invokestatic 246, 3) := by decide +kernel
theorem dX10_trial_18 : decode cX10_trial 18 = .ok (.ifCond .eq 11, 3) := by decide +kernel
theorem dX10_trial_21 : decode cX10_trial 21 = .ok (.iload 4, 2) := by decide +kernel
theorem dX10_trial_23 : decode cX10_trial 23 = .ok (.invokestatic 249, 3) := by decide +kernel
theorem dX10_trial_26 : decode cX10_trial 26 = .ok (.ifCond .ne 5, 3) := by decide +kernel
theorem dX10_trial_29 : decode cX10_trial 29 = .ok (.iconst (-1), 1) := by decide +kernel
theorem dX10_trial_30 : decode cX10_trial 30 = .ok (.ireturn, 1) := by decide +kernel
theorem dX10_trial_31 : decode cX10_trial 31 = .ok (.aload_n 0, 1) := by decide +kernel
theorem dX10_trial_32 : decode cX10_trial 32 = .ok (.getfield 67, 3) := by decide +kernel
theorem dX10_trial_35 : decode cX10_trial 35 = .ok (.iload_n 1, 1) := by decide +kernel
theorem dX10_trial_36 : decode cX10_trial 36 = .ok (.iload_n 2, 1) := by decide +kernel
theorem dX10_trial_37 : decode cX10_trial 37 = .ok (.iload_n 3, 1) := by decide +kernel
theorem dX10_trial_38 : decode cX10_trial 38 = .ok (.iload 4, 2) := by decide +kernel
theorem dX10_trial_40 : decode cX10_trial 40 = .ok (.iload 5, 2) := by decide +kernel
theorem dX10_trial_42 : decode cX10_trial 42 = .ok (.invokevirtual 252, 3) := by decide +kernel
theorem dX10_trial_45 : decode cX10_trial 45 = .ok (.ireturn, 1) := by decide +kernel
theorem dX10_untell_0 : decode cX10_untell 0 = .ok (.aload_n 0, 1) := by decide +kernel
theorem dX10_untell_1 : decode cX10_untell 1 = .ok (.getfield 67, 3) := by decide +kernel
theorem dX10_untell_4 : decode cX10_untell 4 = .ok (.iload_n 1, 1) := by decide +kernel
theorem dX10_untell_5 : decode cX10_untell 5 = .ok (.invokevirtual 256, 3) := by decide +kernel
theorem dX10_untell_8 : decode cX10_untell 8 = .ok (.ireturn, 1) := by decide +kernel
theorem dX10_fit_0 : decode cX10_fit 0 = .ok (.aload_n 0, 1) := by decide +kernel
theorem dX10_fit_1 : decode cX10_fit 1 = .ok (.getfield 67, 3) := by decide +kernel
theorem dX10_fit_4 : decode cX10_fit 4 = .ok (.aload_n 0, 1) := by decide +kernel
theorem dX10_fit_5 : decode cX10_fit 5 = .ok (.getfield 28, 3) := by decide +kernel
theorem dX10_fit_8 : decode cX10_fit 8 = .ok (.getfield 263, 3) := by decide +kernel
theorem dX10_fit_11 : decode cX10_fit 11 = .ok (.iload_n 1, 1) := by decide +kernel
theorem dX10_fit_12 : decode cX10_fit 12 = .ok (.invokevirtual 266, 3) := by decide +kernel
theorem dX10_fit_15 : decode cX10_fit 15 = .ok (.ireturn, 1) := by decide +kernel
theorem dX10_sure_0 : decode cX10_sure 0 = .ok (.aload_n 0, 1) := by decide +kernel
theorem dX10_sure_1 : decode cX10_sure 1 = .ok (.iload_n 1, 1) := by decide +kernel
theorem dX10_sure_2 : decode cX10_sure 2 = .ok (.invokevirtual 123, 3) := by decide +kernel
theorem dX10_sure_5 : decode cX10_sure 5 = .ok (.ifCond .eq 22, 3) := by decide +kernel
theorem dX10_sure_8 : decode cX10_sure 8 = .ok (.aload_n 0, 1) := by decide +kernel
theorem dX10_sure_9 : decode cX10_sure 9 = .ok (.getfield 67, 3) := by decide +kernel
theorem dX10_sure_12 : decode cX10_sure 12 = .ok (.aload_n 0, 1) := by decide +kernel
theorem dX10_sure_13 : decode cX10_sure 13 = .ok (.getfield 28, 3) := by decide +kernel
theorem dX10_sure_16 : decode cX10_sure 16 = .ok (.getfield 263, 3) := by decide +kernel
theorem dX10_sure_19 : decode cX10_sure 19 = .ok (.iload_n 1, 1) := by decide +kernel
theorem dX10_sure_20 : decode cX10_sure 20 = .ok (.iload_n 2, 1) := by decide +kernel
theorem dX10_sure_21 : decode cX10_sure 21 = .ok (.invokevirtual 269, 3) := by decide +kernel
theorem dX10_sure_24 : decode cX10_sure 24 = .ok (.goto 4, 3) := by decide +kernel
theorem dX10_sure_27 : decode cX10_sure 27 = .ok (.iconst (-1), 1) := by decide +kernel
theorem dX10_sure_28 : decode cX10_sure 28 = .ok (.ireturn, 1) := by decide +kernel
theorem dX10_ask_0 : decode cX10_ask 0 = .ok (.iload_n 1, 1) := by decide +kernel
theorem dX10_ask_1 : decode cX10_ask 1 = .ok (.invokestatic 249, 3) := by decide +kernel
theorem dX10_ask_4 : decode cX10_ask 4 = .ok (.ifCond .eq 22, 3) := by decide +kernel
theorem dX10_ask_7 : decode cX10_ask 7 = .ok (.iload_n 2, 1) := by decide +kernel
theorem dX10_ask_8 : decode cX10_ask 8 = .ok (.ifCond .lt 18, 3) := by decide +kernel
theorem dX10_ask_11 : decode cX10_ask 11 = .ok (.iload_n 2, 1) := by decide +kernel
theorem dX10_ask_12 : decode cX10_ask 12 = .ok (.iconst 1, 1) := by decide +kernel
theorem dX10_ask_13 : decode cX10_ask 13 = .ok (.if_icmp .gt 13, 3) := by decide +kernel
theorem dX10_ask_16 : decode cX10_ask 16 = .ok (.aload_n 0, 1) := by decide +kernel
theorem dX10_ask_17 : decode cX10_ask 17 = .ok (.getfield 28, 3) := by decide +kernel
theorem dX10_ask_20 : decode cX10_ask 20 = .ok (.getfield 263, 3) := by decide +kernel
theorem dX10_ask_23 : decode cX10_ask 23 = .ok (.ifCond .ne 5, 3) := by decide +kernel
theorem dX10_ask_26 : decode cX10_ask 26 = .ok (.iconst (-1), 1) := by decide +kernel
theorem dX10_ask_27 : decode cX10_ask 27 = .ok (.ireturn, 1) := by decide +kernel
theorem dX10_ask_28 : decode cX10_ask 28 = .ok (.aload_n 0, 1) := by decide +kernel
theorem dX10_ask_29 : decode cX10_ask 29 = .ok (.getfield 67, 3) := by decide +kernel
theorem dX10_ask_32 : decode cX10_ask 32 = .ok (.aload_n 0, 1) := by decide +kernel
theorem dX10_ask_33 : decode cX10_ask 33 = .ok (.getfield 28, 3) := by decide +kernel
theorem dX10_ask_36 : decode cX10_ask 36 = .ok (.getfield 263, 3) := by decide +kernel
theorem dX10_ask_39 : decode cX10_ask 39 = .ok (.iload_n 1, 1) := by decide +kernel
theorem dX10_ask_40 : decode cX10_ask 40 = .ok (.iload_n 2, 1) := by decide +kernel
theorem dX10_ask_41 : decode cX10_ask 41 = .ok (.iload_n 3, 1) := by decide +kernel
theorem dX10_ask_42 : decode cX10_ask 42 = .ok (.invokevirtual 273, 3) := by decide +kernel
theorem dX10_ask_45 : decode cX10_ask 45 = .ok (.ireturn, 1) := by decide +kernel
theorem dX10_image_0 : decode cX10_image 0 = .ok (.iload_n 1, 1) := by decide +kernel
theorem dX10_image_1 : decode cX10_image 1 = .ok (.ifCond .lt 8, 3) := by decide +kernel
theorem dX10_image_4 : decode cX10_image 4 = .ok (.iload_n 1, 1) := by decide +kernel
theorem dX10_image_5 : decode cX10_image 5 = .ok (.iconst 3, 1) := by decide +kernel
theorem dX10_image_6 : decode cX10_image 6 = .ok (.if_icmp .lt 5, 3) := by decide +kernel
theorem dX10_image_9 : decode cX10_image 9 = .ok (.iconst (-1), 1) := by decide +kernel
theorem dX10_image_10 : decode cX10_image 10 = .ok (.ireturn, 1) := by decide +kernel
theorem dX10_image_11 : decode cX10_image 11 = .ok (.aload_n 0, 1) := by decide +kernel
theorem dX10_image_12 : decode cX10_image 12 = .ok (.getfield 73, 3) := by decide +kernel
theorem dX10_image_15 : decode cX10_image 15 = .ok (.iload_n 1, 1) := by decide +kernel
theorem dX10_image_16 : decode cX10_image 16 = .ok (.aaload, 1) := by decide +kernel
theorem dX10_image_17 : decode cX10_image 17 = .ok (.aload_n 0, 1) := by decide +kernel
theorem dX10_image_18 : decode cX10_image 18 = .ok (.getfield 44, 3) := by decide +kernel
theorem dX10_image_21 : decode cX10_image 21 = .ok (.invokevirtual 127, 3) := by decide +kernel
theorem dX10_image_24 : decode cX10_image 24 = .ok (.invokevirtual 277, 3) := by decide +kernel
theorem dX10_image_27 : decode cX10_image 27 = .ok (.aload_n 0, 1) := by decide +kernel
theorem dX10_image_28 : decode cX10_image 28 = .ok (.dup, 1) := by decide +kernel
theorem dX10_image_29 : decode cX10_image 29 = .ok (.getfield 77, 3) := by decide +kernel
theorem dX10_image_32 : decode cX10_image 32 = .ok (.iconst 1, 1) := by decide +kernel
theorem dX10_image_33 : decode cX10_image 33 = .ok (.iload_n 1, 1) := by decide +kernel
theorem dX10_image_34 : decode cX10_image 34 = .ok (.ishl, 1) := by decide +kernel
theorem dX10_image_35 : decode cX10_image 35 = .ok (.ior, 1) := by decide +kernel
theorem dX10_image_36 : decode cX10_image 36 = .ok (.putfield 77, 3) := by decide +kernel
theorem dX10_image_39 : decode cX10_image 39 = .ok (.aload_n 0, 1) := by decide +kernel
theorem dX10_image_40 : decode cX10_image 40 = .ok (.getfield 73, 3) := by decide +kernel
theorem dX10_image_43 : decode cX10_image 43 = .ok (.iload_n 1, 1) := by decide +kernel
theorem dX10_image_44 : decode cX10_image 44 = .ok (.aaload, 1) := by decide +kernel
theorem dX10_image_45 : decode cX10_image 45 = .ok (.getfield 131, 3) := by decide +kernel
theorem dX10_image_48 : decode cX10_image 48 = .ok (.bipush 40, 2) := by decide +kernel
theorem dX10_image_50 : decode cX10_image 50 = .ok (.iaload, 1) := by decide +kernel
theorem dX10_image_51 : decode cX10_image 51 = .ok (.ireturn, 1) := by decide +kernel
theorem dX10_back_0 : decode cX10_back 0 = .ok (.iload_n 1, 1) := by decide +kernel
theorem dX10_back_1 : decode cX10_back 1 = .ok (.ifCond .lt 19, 3) := by decide +kernel
theorem dX10_back_4 : decode cX10_back 4 = .ok (.iload_n 1, 1) := by decide +kernel
theorem dX10_back_5 : decode cX10_back 5 = .ok (.iconst 3, 1) := by decide +kernel
theorem dX10_back_6 : decode cX10_back 6 = .ok (.if_icmp .ge 14, 3) := by decide +kernel
theorem dX10_back_9 : decode cX10_back 9 = .ok (.aload_n 0, 1) := by decide +kernel
theorem dX10_back_10 : decode cX10_back 10 = .ok (.getfield 77, 3) := by decide +kernel
theorem dX10_back_13 : decode cX10_back 13 = .ok (.iload_n 1, 1) := by decide +kernel
theorem dX10_back_14 : decode cX10_back 14 = .ok (.ishr, 1) := by decide +kernel
theorem dX10_back_15 : decode cX10_back 15 = .ok (.iconst 1, 1) := by decide +kernel
theorem dX10_back_16 : decode cX10_back 16 = .ok (.iand, 1) := by decide +kernel
theorem dX10_back_17 : decode cX10_back 17 = .ok (.ifCond .ne 5, 3) := by decide +kernel
theorem dX10_back_20 : decode cX10_back 20 = .ok (.iconst (-1), 1) := by decide +kernel
theorem dX10_back_21 : decode cX10_back 21 = .ok (.ireturn, 1) := by decide +kernel
theorem dX10_back_22 : decode cX10_back 22 = .ok (.aload_n 0, 1) := by decide +kernel
theorem dX10_back_23 : decode cX10_back 23 = .ok (.getfield 44, 3) := by decide +kernel
theorem dX10_back_26 : decode cX10_back 26 = .ok (.aload_n 0, 1) := by decide +kernel
theorem dX10_back_27 : decode cX10_back 27 = .ok (.getfield 73, 3) := by decide +kernel
theorem dX10_back_30 : decode cX10_back 30 = .ok (.iload_n 1, 1) := by decide +kernel
theorem dX10_back_31 : decode cX10_back 31 = .ok (.aaload, 1) := by decide +kernel
theorem dX10_back_32 : decode cX10_back 32 = .ok (.invokevirtual 104, 3) := by decide +kernel
theorem dX10_back_35 : decode cX10_back 35 = .ok (.aload_n 0, 1) := by decide +kernel
theorem dX10_back_36 : decode cX10_back 36 = .ok (.getfield 73, 3) := by decide +kernel
theorem dX10_back_39 : decode cX10_back 39 = .ok (.iload_n 1, 1) := by decide +kernel
theorem dX10_back_40 : decode cX10_back 40 = .ok (.aaload, 1) := by decide +kernel
theorem dX10_back_41 : decode cX10_back 41 = .ok (.getfield 131, 3) := by decide +kernel
theorem dX10_back_44 : decode cX10_back 44 = .ok (.bipush 40, 2) := by decide +kernel
theorem dX10_back_46 : decode cX10_back 46 = .ok (.iaload, 1) := by decide +kernel
theorem dX10_back_47 : decode cX10_back 47 = .ok (.ireturn, 1) := by decide +kernel
theorem dX10_about_0 : decode cX10_about 0 = .ok (.aload_n 0, 1) := by decide +kernel
theorem dX10_about_1 : decode cX10_about 1 = .ok (.getfield 44, 3) := by decide +kernel
theorem dX10_about_4 : decode cX10_about 4 = .ok (.invokevirtual 127, 3) := by decide +kernel
theorem dX10_about_7 : decode cX10_about 7 = .ok (.getfield 131, 3) := by decide +kernel
theorem dX10_about_10 : decode cX10_about 10 = .ok (.astore_n 2, 1) := by decide +kernel
theorem dX10_about_11 : decode cX10_about 11 = .ok (.iload_n 1, 1) := by decide +kernel
theorem dX10_about_12 : decode cX10_about 12 = .ok (.tableswitch 187 0 14 #[76, 84, 92, 100, 108, 113, 118, 123, 128, 136, 144, 152, 160, 168, 179], 76) := by decide +kernel
theorem dX10_about_88 : decode cX10_about 88 = .ok (.aload_n 0, 1) := by decide +kernel
theorem dX10_about_89 : decode cX10_about 89 = .ok (.getfield 28, 3) := by decide +kernel
theorem dX10_about_92 : decode cX10_about 92 = .ok (.getfield 114, 3) := by decide +kernel
theorem dX10_about_95 : decode cX10_about 95 = .ok (.ireturn, 1) := by decide +kernel
theorem dX10_about_96 : decode cX10_about 96 = .ok (.aload_n 0, 1) := by decide +kernel
theorem dX10_about_97 : decode cX10_about 97 = .ok (.getfield 28, 3) := by decide +kernel
theorem dX10_about_100 : decode cX10_about 100 = .ok (.getfield 263, 3) := by decide +kernel
theorem dX10_about_103 : decode cX10_about 103 = .ok (.ireturn, 1) := by decide +kernel
theorem dX10_about_104 : decode cX10_about 104 = .ok (.aload_n 0, 1) := by decide +kernel
theorem dX10_about_105 : decode cX10_about 105 = .ok (.getfield 28, 3) := by decide +kernel
theorem dX10_about_108 : decode cX10_about 108 = .ok (.getfield 219, 3) := by decide +kernel
theorem dX10_about_111 : decode cX10_about 111 = .ok (.ireturn, 1) := by decide +kernel
theorem dX10_about_112 : decode cX10_about 112 = .ok (.aload_n 0, 1) := by decide +kernel
theorem dX10_about_113 : decode cX10_about 113 = .ok (.getfield 28, 3) := by decide +kernel
theorem dX10_about_116 : decode cX10_about 116 = .ok (.getfield 280, 3) := by decide +kernel
theorem dX10_about_119 : decode cX10_about 119 = .ok (.ireturn, 1) := by decide +kernel
theorem dX10_about_120 : decode cX10_about 120 = .ok (.aload_n 2, 1) := by decide +kernel
theorem dX10_about_121 : decode cX10_about 121 = .ok (.bipush 40, 2) := by decide +kernel
theorem dX10_about_123 : decode cX10_about 123 = .ok (.iaload, 1) := by decide +kernel
theorem dX10_about_124 : decode cX10_about 124 = .ok (.ireturn, 1) := by decide +kernel
theorem dX10_about_125 : decode cX10_about 125 = .ok (.aload_n 2, 1) := by decide +kernel
theorem dX10_about_126 : decode cX10_about 126 = .ok (.bipush 41, 2) := by decide +kernel
theorem dX10_about_128 : decode cX10_about 128 = .ok (.iaload, 1) := by decide +kernel
theorem dX10_about_129 : decode cX10_about 129 = .ok (.ireturn, 1) := by decide +kernel
theorem dX10_about_130 : decode cX10_about 130 = .ok (.aload_n 2, 1) := by decide +kernel
theorem dX10_about_131 : decode cX10_about 131 = .ok (.bipush 42, 2) := by decide +kernel
theorem dX10_about_133 : decode cX10_about 133 = .ok (.iaload, 1) := by decide +kernel
theorem dX10_about_134 : decode cX10_about 134 = .ok (.ireturn, 1) := by decide +kernel
theorem dX10_about_135 : decode cX10_about 135 = .ok (.aload_n 2, 1) := by decide +kernel
theorem dX10_about_136 : decode cX10_about 136 = .ok (.bipush 39, 2) := by decide +kernel
theorem dX10_about_138 : decode cX10_about 138 = .ok (.iaload, 1) := by decide +kernel
theorem dX10_about_139 : decode cX10_about 139 = .ok (.ireturn, 1) := by decide +kernel
theorem dX10_about_140 : decode cX10_about 140 = .ok (.aload_n 0, 1) := by decide +kernel
theorem dX10_about_141 : decode cX10_about 141 = .ok (.getfield 44, 3) := by decide +kernel
theorem dX10_about_144 : decode cX10_about 144 = .ok (.getfield 283, 3) := by decide +kernel
theorem dX10_about_147 : decode cX10_about 147 = .ok (.ireturn, 1) := by decide +kernel
theorem dX10_about_148 : decode cX10_about 148 = .ok (.aload_n 0, 1) := by decide +kernel
theorem dX10_about_149 : decode cX10_about 149 = .ok (.getfield 44, 3) := by decide +kernel
theorem dX10_about_152 : decode cX10_about 152 = .ok (.getfield 286, 3) := by decide +kernel
theorem dX10_about_155 : decode cX10_about 155 = .ok (.ireturn, 1) := by decide +kernel
theorem dX10_about_156 : decode cX10_about 156 = .ok (.aload_n 0, 1) := by decide +kernel
theorem dX10_about_157 : decode cX10_about 157 = .ok (.getfield 67, 3) := by decide +kernel
theorem dX10_about_160 : decode cX10_about 160 = .ok (.getfield 111, 3) := by decide +kernel
theorem dX10_about_163 : decode cX10_about 163 = .ok (.ireturn, 1) := by decide +kernel
theorem dX10_about_164 : decode cX10_about 164 = .ok (.aload_n 0, 1) := by decide +kernel
theorem dX10_about_165 : decode cX10_about 165 = .ok (.getfield 67, 3) := by decide +kernel
theorem dX10_about_168 : decode cX10_about 168 = .ok (.getfield 259, 3) := by decide +kernel
theorem dX10_about_171 : decode cX10_about 171 = .ok (.ireturn, 1) := by decide +kernel
theorem dX10_about_172 : decode cX10_about 172 = .ok (.aload_n 0, 1) := by decide +kernel
theorem dX10_about_173 : decode cX10_about 173 = .ok (.getfield 12, 3) := by decide +kernel
theorem dX10_about_176 : decode cX10_about 176 = .ok (.getfield 82, 3) := by decide +kernel
theorem dX10_about_179 : decode cX10_about 179 = .ok (.ireturn, 1) := by decide +kernel
theorem dX10_about_180 : decode cX10_about 180 = .ok (.aload_n 0, 1) := by decide +kernel
theorem dX10_about_181 : decode cX10_about 181 = .ok (.getfield 28, 3) := by decide +kernel
theorem dX10_about_184 : decode cX10_about 184 = .ok (.getfield 289, 3) := by decide +kernel
theorem dX10_about_187 : decode cX10_about 187 = .ok (.getfield 293, 3) := by decide +kernel
theorem dX10_about_190 : decode cX10_about 190 = .ok (.ireturn, 1) := by decide +kernel
theorem dX10_about_191 : decode cX10_about 191 = .ok (.aload_n 0, 1) := by decide +kernel
theorem dX10_about_192 : decode cX10_about 192 = .ok (.getfield 60, 3) := by decide +kernel
theorem dX10_about_195 : decode cX10_about 195 = .ok (.getfield 108, 3) := by decide +kernel
theorem dX10_about_198 : decode cX10_about 198 = .ok (.ireturn, 1) := by decide +kernel
theorem dX10_about_199 : decode cX10_about 199 = .ok (.iconst (-1), 1) := by decide +kernel
theorem dX10_about_200 : decode cX10_about 200 = .ok (.ireturn, 1) := by decide +kernel
set_option maxRecDepth 100000 in
theorem m_X10_lies (l : Launch) (D : va_G) (cT : Nat → ClassId) (T : Nat → Option Nat) (q : Nat → Int) (hq : qok q) (a0 : Nat) (t0 : T a0 = some 0) (y1 : Int32) (j1 : IV y1 (-2147483648) 2147483647) : th_Met l D cT T (kd q) yX10_lies cX10_lies 2 (some .int) (rmk 0 0) [.ref a0, .int y1] (th_R T (some (.inl (-2147483648, 2147483647)))) [] := by
  refine th_start (by decide) (Nat.le_of_ble_eq_true rfl) ?_
  intro p e s m below meth c ls S hK hH hr hlocks hnm hl
  have hx := S.1
  have hb := S.2.1
  have hl : lv_has ls 2 [(0, .ref a0), (1, .int y1)] := hl
  have J33 : ∀ (H : Heap) (locs : List Loc) (ls : Array Slot) (w33_0 : Int32), IV w33_0 (-2147483648) 2147483647 → th_H D cT T (kd q) H → va_S (th_A T []) s.heap H locs → lv_has ls 2 [] → W p l e (rmk 0 0) s m [.ref a0, .int y1].toArray below meth c H locs 0 0 (MQ below (th_Q D cT T (kd q) (th_R T (some (.inl (-2147483648, 2147483647)))) []) [.ref a0, .int y1].toArray s 0 0 (th_A T [])) (F0 m 33 ls [.int w33_0]) := by
    intro H locs ls w33_0 iw33_0 hH hS hl
    exact th_iret S hK hH hS hr hlocks (th_R.i iw33_0) dX10_lies_33
  have J33_s0_m1 : ∀ (H : Heap) (locs : List Loc) (ls : Array Slot), th_H D cT T (kd q) H → va_S (th_A T []) s.heap H locs → lv_has ls 2 [] → W p l e (rmk 0 0) s m [.ref a0, .int y1].toArray below meth c H locs 0 0 (MQ below (th_Q D cT T (kd q) (th_R T (some (.inl (-2147483648, 2147483647)))) []) [.ref a0, .int y1].toArray s 0 0 (th_A T [])) (F0 m 33 ls [.int (-1)]) := by
    intro H locs ls hH hS hl
    exact th_iret S hK hH hS hr hlocks (th_R.i (iv_top _)) dX10_lies_33
  have J20 : ∀ (H : Heap) (locs : List Loc) (ls : Array Slot), th_H D cT T (kd q) H → va_S (th_A T []) s.heap H locs → lv_has ls 2 [] → W p l e (rmk 0 0) s m [.ref a0, .int y1].toArray below meth c H locs 0 0 (MQ below (th_Q D cT T (kd q) (th_R T (some (.inl (-2147483648, 2147483647)))) []) [.ref a0, .int y1].toArray s 0 0 (th_A T [])) (F0 m 20 ls []) := by
    intro H locs ls hH hS hl
    refine lv_iconst (v := (-1)) hx hb dX10_lies_20 (by decide) ?_
    refine lv_goto (tgt := 33) hx hb dX10_lies_21 (by decide) ?_
    exact J33_s0_m1 H locs ls  hH hS (lv_sub hl [] rfl)
  have J0 : ∀ (H : Heap) (locs : List Loc) (ls : Array Slot), th_H D cT T (kd q) H → va_S (th_A T []) s.heap H locs → lv_has ls 2 [(0, .ref a0), (1, .int y1)] → W p l e (rmk 0 0) s m [.ref a0, .int y1].toArray below meth c H locs 0 0 (MQ below (th_Q D cT T (kd q) (th_R T (some (.inl (-2147483648, 2147483647)))) []) [.ref a0, .int y1].toArray s 0 0 (th_A T [])) (F0 m 0 ls []) := by
    intro H locs ls hH hS hl
    refine lv_iload_n hx hb dX10_lies_0 rfl (lv_at hl 1 rfl) ?_
    refine lv_if_lt (tgt := 20) hx hb dX10_lies_1 (by decide) (fun c1 => ?_) (fun c1 => ?_)
    · skip
      have ir2 : IV y1 (-2147483648) (-1) := iv_uL j1 (iv_c (by decide) : IV 0 0 0) (iv_lt c1) (by decide)
      exact J20 H locs ls  hH hS (lv_sub hl [] rfl)
    · skip
      have ir3 : IV y1 0 2147483647 := iv_vR (iv_c (by decide) : IV 0 0 0) j1 (iv_nlt c1) (by decide)
      refine lv_iload_n hx hb dX10_lies_4 rfl (lv_at hl 1 rfl) ?_
      refine lv_aload_n hx hb dX10_lies_5 rfl (lv_at hl 0 rfl) ?_
      refine th_get S hK hH inG10 t0 kd_0 rfl 6 (by decide) gm_511 rfl rfl dX10_lies_6 (fun v4 hv4 fv4 => ?_)
      obtain ⟨rf5, rfl, trf5⟩ := th_V.ref hv4
      refine th_get S hK hH inG5 trf5 kd_7 rfl 2 (by decide) gm_431 rfl rfl dX10_lies_9 (fun v6 hv6 fv6 => ?_)
      obtain ⟨x7, rfl, ix7⟩ := th_V.int hv6
      refine lv_icmp_ge (tgt := 20) hx hb dX10_lies_12 (by decide) (fun c8 => ?_) (fun c8 => ?_)
      · skip
        exact J20 H locs ls  hH hS (lv_sub hl [] rfl)
      · skip
        have ir9 : IV y1 0 2147483646 := iv_uL ir3 ix7 (iv_nle c8) (by decide)
        have ir10 : IV x7 1 2147483647 := iv_uR ir3 ix7 (iv_nle c8) (by decide)
        refine lv_iload_n hx hb dX10_lies_15 rfl (lv_at hl 1 rfl) ?_
        refine lv_iconst (v := 4) hx hb dX10_lies_16 (by decide) ?_
        refine lv_icmp_lt (tgt := 24) hx hb dX10_lies_17 (by decide) (fun c11 => ?_) (fun c11 => ?_)
        · skip
          have ir12 : IV y1 0 3 := iv_uL ir9 (iv_c (by decide) : IV 4 4 4) (iv_lt c11) (by decide)
          refine lv_aload_n hx hb dX10_lies_24 rfl (lv_at hl 0 rfl) ?_
          refine th_getK S hK fv4 inG10 rfl (by decide) gm_511 rfl dX10_lies_25 ?_
          refine th_get S hK hH inG5 trf5 kd_7 rfl 1 (by decide) gm_429 rfl rfl dX10_lies_28 (fun v14 hv14 fv14 => ?_)
          obtain ⟨rf15, rfl, trf15⟩ := th_V.ref hv14
          refine lv_iload_n hx hb dX10_lies_31 rfl (lv_at hl 1 rfl) ?_
          refine th_iald S hK hH trf15 kd_34 (th_in (hi := 3) ir12 (by decide)) dX10_lies_32 (fun v16 hv16 => ?_)
          obtain ⟨x17, rfl, ix17⟩ := th_V.int hv16
          exact J33 H locs ls x17 ix17 hH hS (lv_sub hl [] rfl)
        · skip
          have ir18 : IV y1 4 2147483646 := iv_vR (iv_c (by decide) : IV 4 4 4) ir9 (iv_nlt c11) (by decide)
          exact J20 H locs ls  hH hS (lv_sub hl [] rfl)
  exact J0 s.heap [] ls hH va_S.rf hl

set_option maxRecDepth 100000 in
theorem m_X10_isAmount (l : Launch) (D : va_G) (cT : Nat → ClassId) (T : Nat → Option Nat) (q : Nat → Int) (hq : qok q) (y0 : Int32) (j0 : IV y0 (-2147483648) 2147483647) : th_Met l D cT T (kd q) yX10_isAmount cX10_isAmount 1 (some .boolean) (rmk 0 0) [.int y0] (th_RG y0 0 9) [] := by
  refine th_start (by decide) (Nat.le_of_ble_eq_true rfl) ?_
  intro p e s m below meth c ls S hK hH hr hlocks hnm hl
  have hx := S.1
  have hb := S.2.1
  have hl : lv_has ls 1 [(0, .int y0)] := hl
  have J15_s0_0 : ∀ (H : Heap) (locs : List Loc) (ls : Array Slot), th_H D cT T (kd q) H → va_S (th_A T []) s.heap H locs → lv_has ls 1 [] → W p l e (rmk 0 0) s m [.int y0].toArray below meth c H locs 0 0 (MQ below (th_Q D cT T (kd q) (th_RG y0 0 9) []) [.int y0].toArray s 0 0 (th_A T [])) (F0 m 15 ls [.int 0]) := by
    intro H locs ls hH hS hl
    exact th_zret S hK hH hS hr hlocks (iv_w (iv_c (by decide) : IV 0 0 0) (by decide)) (th_RG.i (iv_w (iv_c (by decide) : IV 0 0 0) (by decide)) (fun z => absurd rfl z)) dX10_isAmount_15
  have J15_s0_1 : ∀ (H : Heap) (locs : List Loc) (ls : Array Slot), IV y0 0 9 → th_H D cT T (kd q) H → va_S (th_A T []) s.heap H locs → lv_has ls 1 [] → W p l e (rmk 0 0) s m [.int y0].toArray below meth c H locs 0 0 (MQ below (th_Q D cT T (kd q) (th_RG y0 0 9) []) [.int y0].toArray s 0 0 (th_A T [])) (F0 m 15 ls [.int 1]) := by
    intro H locs ls f15_y0 hH hS hl
    exact th_zret S hK hH hS hr hlocks (iv_w (iv_c (by decide) : IV 1 1 1) (by decide)) (th_RG.i (iv_w (iv_c (by decide) : IV 1 1 1) (by decide)) (fun _ => f15_y0)) dX10_isAmount_15
  have J14 : ∀ (H : Heap) (locs : List Loc) (ls : Array Slot), th_H D cT T (kd q) H → va_S (th_A T []) s.heap H locs → lv_has ls 1 [] → W p l e (rmk 0 0) s m [.int y0].toArray below meth c H locs 0 0 (MQ below (th_Q D cT T (kd q) (th_RG y0 0 9) []) [.int y0].toArray s 0 0 (th_A T [])) (F0 m 14 ls []) := by
    intro H locs ls hH hS hl
    refine lv_iconst (v := 0) hx hb dX10_isAmount_14 (by decide) ?_
    exact J15_s0_0 H locs ls  hH hS (lv_sub hl [] rfl)
  have J0 : ∀ (H : Heap) (locs : List Loc) (ls : Array Slot), th_H D cT T (kd q) H → va_S (th_A T []) s.heap H locs → lv_has ls 1 [(0, .int y0)] → W p l e (rmk 0 0) s m [.int y0].toArray below meth c H locs 0 0 (MQ below (th_Q D cT T (kd q) (th_RG y0 0 9) []) [.int y0].toArray s 0 0 (th_A T [])) (F0 m 0 ls []) := by
    intro H locs ls hH hS hl
    refine lv_iload_n hx hb dX10_isAmount_0 rfl (lv_at hl 0 rfl) ?_
    refine lv_if_lt (tgt := 14) hx hb dX10_isAmount_1 (by decide) (fun c1 => ?_) (fun c1 => ?_)
    · skip
      have ir2 : IV y0 (-2147483648) (-1) := iv_uL j0 (iv_c (by decide) : IV 0 0 0) (iv_lt c1) (by decide)
      exact J14 H locs ls  hH hS (lv_sub hl [] rfl)
    · skip
      have ir3 : IV y0 0 2147483647 := iv_vR (iv_c (by decide) : IV 0 0 0) j0 (iv_nlt c1) (by decide)
      refine lv_iload_n hx hb dX10_isAmount_4 rfl (lv_at hl 0 rfl) ?_
      refine lv_bipush (v := 9) hx hb dX10_isAmount_5 (by decide) ?_
      refine lv_icmp_gt (tgt := 14) hx hb dX10_isAmount_7 (by decide) (fun c4 => ?_) (fun c4 => ?_)
      · skip
        have ir5 : IV y0 10 2147483647 := iv_uR (iv_c (by decide) : IV 9 9 9) ir3 (iv_lt c4) (by decide)
        exact J14 H locs ls  hH hS (lv_sub hl [] rfl)
      · skip
        have ir6 : IV y0 0 9 := iv_vL ir3 (iv_c (by decide) : IV 9 9 9) (iv_nlt c4) (by decide)
        refine lv_iconst (v := 1) hx hb dX10_isAmount_10 (by decide) ?_
        refine lv_goto (tgt := 15) hx hb dX10_isAmount_11 (by decide) ?_
        exact J15_s0_1 H locs ls ir6 hH hS (lv_sub hl [] rfl)
  exact J0 s.heap [] ls hH va_S.rf hl

set_option maxRecDepth 100000 in
theorem m_X10_isTrialHunger (l : Launch) (D : va_G) (cT : Nat → ClassId) (T : Nat → Option Nat) (q : Nat → Int) (hq : qok q) (y0 : Int32) (j0 : IV y0 (-2147483648) 2147483647) : th_Met l D cT T (kd q) yX10_isTrialHunger cX10_isTrialHunger 1 (some .boolean) (rmk 0 0) [.int y0] (th_RG y0 1 99) [] := by
  refine th_start (by decide) (Nat.le_of_ble_eq_true rfl) ?_
  intro p e s m below meth c ls S hK hH hr hlocks hnm hl
  have hx := S.1
  have hb := S.2.1
  have hl : lv_has ls 1 [(0, .int y0)] := hl
  have J16_s0_0 : ∀ (H : Heap) (locs : List Loc) (ls : Array Slot), th_H D cT T (kd q) H → va_S (th_A T []) s.heap H locs → lv_has ls 1 [] → W p l e (rmk 0 0) s m [.int y0].toArray below meth c H locs 0 0 (MQ below (th_Q D cT T (kd q) (th_RG y0 1 99) []) [.int y0].toArray s 0 0 (th_A T [])) (F0 m 16 ls [.int 0]) := by
    intro H locs ls hH hS hl
    exact th_zret S hK hH hS hr hlocks (iv_w (iv_c (by decide) : IV 0 0 0) (by decide)) (th_RG.i (iv_w (iv_c (by decide) : IV 0 0 0) (by decide)) (fun z => absurd rfl z)) dX10_isTrialHunger_16
  have J16_s0_1 : ∀ (H : Heap) (locs : List Loc) (ls : Array Slot), IV y0 1 99 → th_H D cT T (kd q) H → va_S (th_A T []) s.heap H locs → lv_has ls 1 [] → W p l e (rmk 0 0) s m [.int y0].toArray below meth c H locs 0 0 (MQ below (th_Q D cT T (kd q) (th_RG y0 1 99) []) [.int y0].toArray s 0 0 (th_A T [])) (F0 m 16 ls [.int 1]) := by
    intro H locs ls f16_y0 hH hS hl
    exact th_zret S hK hH hS hr hlocks (iv_w (iv_c (by decide) : IV 1 1 1) (by decide)) (th_RG.i (iv_w (iv_c (by decide) : IV 1 1 1) (by decide)) (fun _ => f16_y0)) dX10_isTrialHunger_16
  have J15 : ∀ (H : Heap) (locs : List Loc) (ls : Array Slot), th_H D cT T (kd q) H → va_S (th_A T []) s.heap H locs → lv_has ls 1 [] → W p l e (rmk 0 0) s m [.int y0].toArray below meth c H locs 0 0 (MQ below (th_Q D cT T (kd q) (th_RG y0 1 99) []) [.int y0].toArray s 0 0 (th_A T [])) (F0 m 15 ls []) := by
    intro H locs ls hH hS hl
    refine lv_iconst (v := 0) hx hb dX10_isTrialHunger_15 (by decide) ?_
    exact J16_s0_0 H locs ls  hH hS (lv_sub hl [] rfl)
  have J0 : ∀ (H : Heap) (locs : List Loc) (ls : Array Slot), th_H D cT T (kd q) H → va_S (th_A T []) s.heap H locs → lv_has ls 1 [(0, .int y0)] → W p l e (rmk 0 0) s m [.int y0].toArray below meth c H locs 0 0 (MQ below (th_Q D cT T (kd q) (th_RG y0 1 99) []) [.int y0].toArray s 0 0 (th_A T [])) (F0 m 0 ls []) := by
    intro H locs ls hH hS hl
    refine lv_iload_n hx hb dX10_isTrialHunger_0 rfl (lv_at hl 0 rfl) ?_
    refine lv_iconst (v := 1) hx hb dX10_isTrialHunger_1 (by decide) ?_
    refine lv_icmp_lt (tgt := 15) hx hb dX10_isTrialHunger_2 (by decide) (fun c1 => ?_) (fun c1 => ?_)
    · skip
      have ir2 : IV y0 (-2147483648) 0 := iv_uL j0 (iv_c (by decide) : IV 1 1 1) (iv_lt c1) (by decide)
      exact J15 H locs ls  hH hS (lv_sub hl [] rfl)
    · skip
      have ir3 : IV y0 1 2147483647 := iv_vR (iv_c (by decide) : IV 1 1 1) j0 (iv_nlt c1) (by decide)
      refine lv_iload_n hx hb dX10_isTrialHunger_5 rfl (lv_at hl 0 rfl) ?_
      refine lv_bipush (v := 99) hx hb dX10_isTrialHunger_6 (by decide) ?_
      refine lv_icmp_gt (tgt := 15) hx hb dX10_isTrialHunger_8 (by decide) (fun c4 => ?_) (fun c4 => ?_)
      · skip
        have ir5 : IV y0 100 2147483647 := iv_uR (iv_c (by decide) : IV 99 99 99) ir3 (iv_lt c4) (by decide)
        exact J15 H locs ls  hH hS (lv_sub hl [] rfl)
      · skip
        have ir6 : IV y0 1 99 := iv_vL ir3 (iv_c (by decide) : IV 99 99 99) (iv_nlt c4) (by decide)
        refine lv_iconst (v := 1) hx hb dX10_isTrialHunger_11 (by decide) ?_
        refine lv_goto (tgt := 16) hx hb dX10_isTrialHunger_12 (by decide) ?_
        exact J16_s0_1 H locs ls ir6 hH hS (lv_sub hl [] rfl)
  exact J0 s.heap [] ls hH va_S.rf hl

set_option maxRecDepth 100000 in
theorem m_X10_trial (l : Launch) (D : va_G) (cT : Nat → ClassId) (T : Nat → Option Nat) (q : Nat → Int) (hq : qok q) (a0 : Nat) (t0 : T a0 = some 0) (y1 : Int32) (j1 : IV y1 (-2147483648) 2147483647) (y2 : Int32) (j2 : IV y2 (-2147483648) 2147483647) (y3 : Int32) (j3 : IV y3 (-2147483648) 2147483647) (y4 : Int32) (j4 : IV y4 (-2147483648) 2147483647) (y5 : Int32) (j5 : IV y5 0 1) : th_Met l D cT T (kd q) yX10_trial cX10_trial 6 (some .int) (rmk 1 25) [.ref a0, .int y1, .int y2, .int y3, .int y4, .int y5] (th_R T (some (.inl (-1, 29)))) [8, 40, 41, 42, 43, 44] := by
  refine th_start (by decide) (Nat.le_of_ble_eq_true rfl) ?_
  intro p e s m below meth c ls S hK hH hr hlocks hnm hl
  have hx := S.1
  have hb := S.2.1
  have hl : lv_has ls 6 [(0, .ref a0), (1, .int y1), (2, .int y2), (3, .int y3), (4, .int y4), (5, .int y5)] := hl
  have J29 : ∀ (H : Heap) (locs : List Loc) (ls : Array Slot), th_H D cT T (kd q) H → va_S (th_A T [8, 40, 41, 42, 43, 44]) s.heap H locs → lv_has ls 6 [] → W p l e (rmk 1 25) s m [.ref a0, .int y1, .int y2, .int y3, .int y4, .int y5].toArray below meth c H locs 0 0 (MQ below (th_Q D cT T (kd q) (th_R T (some (.inl (-1, 29)))) [8, 40, 41, 42, 43, 44]) [.ref a0, .int y1, .int y2, .int y3, .int y4, .int y5].toArray s 0 0 (th_A T [8, 40, 41, 42, 43, 44])) (F0 m 29 ls []) := by
    intro H locs ls hH hS hl
    refine lv_iconst (v := (-1)) hx hb dX10_trial_29 (by decide) ?_
    exact th_iret S hK hH hS hr hlocks (th_R.i (iv_w (iv_c (by decide) : IV (-1) (-1) (-1)) (by decide))) dX10_trial_30
  have J0 : ∀ (H : Heap) (locs : List Loc) (ls : Array Slot), th_H D cT T (kd q) H → va_S (th_A T [8, 40, 41, 42, 43, 44]) s.heap H locs → lv_has ls 6 [(0, .ref a0), (1, .int y1), (2, .int y2), (3, .int y3), (4, .int y4), (5, .int y5)] → W p l e (rmk 1 25) s m [.ref a0, .int y1, .int y2, .int y3, .int y4, .int y5].toArray below meth c H locs 0 0 (MQ below (th_Q D cT T (kd q) (th_R T (some (.inl (-1, 29)))) [8, 40, 41, 42, 43, 44]) [.ref a0, .int y1, .int y2, .int y3, .int y4, .int y5].toArray s 0 0 (th_A T [8, 40, 41, 42, 43, 44])) (F0 m 0 ls []) := by
    intro H locs ls hH hS hl
    refine lv_iload_n hx hb dX10_trial_0 rfl (lv_at hl 1 rfl) ?_
    refine th_callSg (n := 1) (As := [.int y1]) S hK hH hS (th_A.sub (by decide)) (m_X10_isAmount l D cT T q hq (y1) j1) gm_1139 gm_1137 gm_1138 gm_113 (by decide +kernel) ⟨rfl, rfl, Nat.le_of_ble_eq_true rfl, Nat.le_of_ble_eq_true rfl⟩ rfl hl.1 rfl (Nat.le_of_ble_eq_true rfl) dX10_trial_1 ⟨Nat.zero_le _, Nat.zero_le _⟩ (fun x1 H locs ix1 ox1 hH hS hF1 => ?_)
    refine lv_if_eq (tgt := 29) hx hb dX10_trial_4 (by decide) (fun c2 => ?_) (fun c2 => ?_)
    · skip
      have ir3 : IV x1 0 0 := iv_eL c2 (iv_c (by decide) : IV 0 0 0)
      exact J29 H locs ls  hH hS (lv_sub hl [] rfl)
    · skip
      have ir4 : IV x1 1 1 := iv_cutL ix1 (iv_c (by decide) : IV 0 0 0) c2 (by decide)
      have ir5 : IV y1 0 9 := ox1 c2
      refine lv_iload_n hx hb dX10_trial_7 rfl (lv_at hl 2 rfl) ?_
      refine th_callSg (n := 1) (As := [.int y2]) S hK hH hS (th_A.sub (by decide)) (m_X10_isAmount l D cT T q hq (y2) j2) gm_1139 gm_1137 gm_1138 gm_113 (by decide +kernel) ⟨rfl, rfl, Nat.le_of_ble_eq_true rfl, Nat.le_of_ble_eq_true rfl⟩ rfl hl.1 rfl (Nat.le_of_ble_eq_true rfl) dX10_trial_8 ⟨Nat.zero_le _, Nat.zero_le _⟩ (fun x6 H locs ix6 ox6 hH hS hF1 => ?_)
      refine lv_if_eq (tgt := 29) hx hb dX10_trial_11 (by decide) (fun c7 => ?_) (fun c7 => ?_)
      · skip
        have ir8 : IV x6 0 0 := iv_eL c7 (iv_c (by decide) : IV 0 0 0)
        exact J29 H locs ls  hH hS (lv_sub hl [] rfl)
      · skip
        have ir9 : IV x6 1 1 := iv_cutL ix6 (iv_c (by decide) : IV 0 0 0) c7 (by decide)
        have ir10 : IV y2 0 9 := ox6 c7
        refine lv_iload_n hx hb dX10_trial_14 rfl (lv_at hl 3 rfl) ?_
        refine th_callSg (n := 1) (As := [.int y3]) S hK hH hS (th_A.sub (by decide)) (m_X10_isAmount l D cT T q hq (y3) j3) gm_1139 gm_1137 gm_1138 gm_113 (by decide +kernel) ⟨rfl, rfl, Nat.le_of_ble_eq_true rfl, Nat.le_of_ble_eq_true rfl⟩ rfl hl.1 rfl (Nat.le_of_ble_eq_true rfl) dX10_trial_15 ⟨Nat.zero_le _, Nat.zero_le _⟩ (fun x11 H locs ix11 ox11 hH hS hF1 => ?_)
        refine lv_if_eq (tgt := 29) hx hb dX10_trial_18 (by decide) (fun c12 => ?_) (fun c12 => ?_)
        · skip
          have ir13 : IV x11 0 0 := iv_eL c12 (iv_c (by decide) : IV 0 0 0)
          exact J29 H locs ls  hH hS (lv_sub hl [] rfl)
        · skip
          have ir14 : IV x11 1 1 := iv_cutL ix11 (iv_c (by decide) : IV 0 0 0) c12 (by decide)
          have ir15 : IV y3 0 9 := ox11 c12
          refine lv_iload hx hb dX10_trial_21 (lv_at hl 4 rfl) ?_
          refine th_callSg (n := 1) (As := [.int y4]) S hK hH hS (th_A.sub (by decide)) (m_X10_isTrialHunger l D cT T q hq (y4) j4) gm_1142 gm_1140 gm_1141 gm_113 (by decide +kernel) ⟨rfl, rfl, Nat.le_of_ble_eq_true rfl, Nat.le_of_ble_eq_true rfl⟩ rfl hl.1 rfl (Nat.le_of_ble_eq_true rfl) dX10_trial_23 ⟨Nat.zero_le _, Nat.zero_le _⟩ (fun x16 H locs ix16 ox16 hH hS hF1 => ?_)
          refine lv_if_ne (tgt := 31) hx hb dX10_trial_26 (by decide) (fun c17 => ?_) (fun c17 => ?_)
          · skip
            have ir18 : IV x16 1 1 := iv_cutL ix16 (iv_c (by decide) : IV 0 0 0) c17 (by decide)
            have ir19 : IV y4 1 99 := ox16 c17
            refine lv_aload_n hx hb dX10_trial_31 rfl (lv_at hl 0 rfl) ?_
            refine th_get S hK hH inG10 t0 kd_0 rfl 7 (by decide) gm_512 rfl rfl dX10_trial_32 (fun v20 hv20 fv20 => ?_)
            obtain ⟨rf21, rfl, trf21⟩ := th_V.ref hv20
            refine lv_iload_n hx hb dX10_trial_35 rfl (lv_at hl 1 rfl) ?_
            refine lv_iload_n hx hb dX10_trial_36 rfl (lv_at hl 2 rfl) ?_
            refine lv_iload_n hx hb dX10_trial_37 rfl (lv_at hl 3 rfl) ?_
            refine lv_iload hx hb dX10_trial_38 (lv_at hl 4 rfl) ?_
            refine lv_iload hx hb dX10_trial_40 (lv_at hl 5 rfl) ?_
            refine th_callVi (n := 5) (As := [.int y1, .int y2, .int y3, .int y4, .int y5]) S hK hH hS (th_A.sub (by decide)) (m_X9_tell l D cT T q hq rf21 trf21 (y1) (iv_top _) (y2) (iv_top _) (y3) (iv_top _) (y4) (iv_top _) (y5) j5) gm_1146 gm_1143 gm_1144 gm_1145 gm_123 (by decide +kernel) ⟨rfl, rfl, Nat.le_of_ble_eq_true rfl, Nat.le_of_ble_eq_true rfl⟩ trf21 kd_8 rfl rfl hl.1 rfl (Nat.le_of_ble_eq_true rfl) dX10_trial_42 ⟨Nat.zero_le _, Nat.zero_le _⟩ (fun x22 H locs ix22 hH hS hF1 => ?_)
            exact th_iret S hK hH hS hr hlocks (th_R.i ix22) dX10_trial_45
          · skip
            have ir23 : IV x16 0 0 := iv_eL c17 (iv_c (by decide) : IV 0 0 0)
            exact J29 H locs ls  hH hS (lv_sub hl [] rfl)
  exact J0 s.heap [] ls hH va_S.rf hl

set_option maxRecDepth 100000 in
theorem m_X10_untell (l : Launch) (D : va_G) (cT : Nat → ClassId) (T : Nat → Option Nat) (q : Nat → Int) (hq : qok q) (a0 : Nat) (t0 : T a0 = some 0) (y1 : Int32) (j1 : IV y1 (-2147483648) 2147483647) : th_Met l D cT T (kd q) yX10_untell cX10_untell 2 (some .boolean) (rmk 1 21) [.ref a0, .int y1] (th_R T (some (.inl (0, 1)))) [44] := by
  refine th_start (by decide) (Nat.le_of_ble_eq_true rfl) ?_
  intro p e s m below meth c ls S hK hH hr hlocks hnm hl
  have hx := S.1
  have hb := S.2.1
  have hl : lv_has ls 2 [(0, .ref a0), (1, .int y1)] := hl
  have J0 : ∀ (H : Heap) (locs : List Loc) (ls : Array Slot), th_H D cT T (kd q) H → va_S (th_A T [44]) s.heap H locs → lv_has ls 2 [(0, .ref a0), (1, .int y1)] → W p l e (rmk 1 21) s m [.ref a0, .int y1].toArray below meth c H locs 0 0 (MQ below (th_Q D cT T (kd q) (th_R T (some (.inl (0, 1)))) [44]) [.ref a0, .int y1].toArray s 0 0 (th_A T [44])) (F0 m 0 ls []) := by
    intro H locs ls hH hS hl
    refine lv_aload_n hx hb dX10_untell_0 rfl (lv_at hl 0 rfl) ?_
    refine th_get S hK hH inG10 t0 kd_0 rfl 7 (by decide) gm_512 rfl rfl dX10_untell_1 (fun v1 hv1 fv1 => ?_)
    obtain ⟨rf2, rfl, trf2⟩ := th_V.ref hv1
    refine lv_iload_n hx hb dX10_untell_4 rfl (lv_at hl 1 rfl) ?_
    refine th_callVi (n := 1) (As := [.int y1]) S hK hH hS (th_A.sub (by decide)) (m_X9_takeBack l D cT T q hq rf2 trf2 (y1) j1) gm_1154 gm_1151 gm_1152 gm_1153 gm_123 (by decide +kernel) ⟨rfl, rfl, Nat.le_of_ble_eq_true rfl, Nat.le_of_ble_eq_true rfl⟩ trf2 kd_8 rfl rfl hl.1 rfl (Nat.le_of_ble_eq_true rfl) dX10_untell_5 ⟨Nat.zero_le _, Nat.zero_le _⟩ (fun x3 H locs ix3 hH hS hF1 => ?_)
    exact th_zret S hK hH hS hr hlocks ix3 (th_R.i ix3) dX10_untell_8
  exact J0 s.heap [] ls hH va_S.rf hl

set_option maxRecDepth 100000 in
theorem m_X10_fit (l : Launch) (D : va_G) (cT : Nat → ClassId) (T : Nat → Option Nat) (q : Nat → Int) (hq : qok q) (a0 : Nat) (t0 : T a0 = some 0) (y1 : Int32) (j1 : IV y1 (-2147483648) 2147483647) : th_Met l D cT T (kd q) yX10_fit cX10_fit 2 (some .int) (rmk 3 78) [.ref a0, .int y1] (th_R T (some (.inl (-2147483648, 2147483647)))) [45] := by
  refine th_start (by decide) (Nat.le_of_ble_eq_true rfl) ?_
  intro p e s m below meth c ls S hK hH hr hlocks hnm hl
  have hx := S.1
  have hb := S.2.1
  have hl : lv_has ls 2 [(0, .ref a0), (1, .int y1)] := hl
  have J0 : ∀ (H : Heap) (locs : List Loc) (ls : Array Slot), th_H D cT T (kd q) H → va_S (th_A T [45]) s.heap H locs → lv_has ls 2 [(0, .ref a0), (1, .int y1)] → W p l e (rmk 3 78) s m [.ref a0, .int y1].toArray below meth c H locs 0 0 (MQ below (th_Q D cT T (kd q) (th_R T (some (.inl (-2147483648, 2147483647)))) [45]) [.ref a0, .int y1].toArray s 0 0 (th_A T [45])) (F0 m 0 ls []) := by
    intro H locs ls hH hS hl
    refine lv_aload_n hx hb dX10_fit_0 rfl (lv_at hl 0 rfl) ?_
    refine th_get S hK hH inG10 t0 kd_0 rfl 7 (by decide) gm_512 rfl rfl dX10_fit_1 (fun v1 hv1 fv1 => ?_)
    obtain ⟨rf2, rfl, trf2⟩ := th_V.ref hv1
    refine lv_aload_n hx hb dX10_fit_4 rfl (lv_at hl 0 rfl) ?_
    refine th_get S hK hH inG10 t0 kd_0 rfl 2 (by decide) gm_507 rfl rfl dX10_fit_5 (fun v3 hv3 fv3 => ?_)
    obtain ⟨rf4, rfl, trf4⟩ := th_V.ref hv3
    refine th_get S hK hH inG4 trf4 kd_3 rfl 11 (by decide) gm_277 rfl rfl dX10_fit_8 (fun v5 hv5 fv5 => ?_)
    obtain ⟨x6, rfl, ix6⟩ := th_V.int hv5
    refine lv_iload_n hx hb dX10_fit_11 rfl (lv_at hl 1 rfl) ?_
    refine th_callVi (n := 2) (As := [.int x6, .int y1]) S hK hH hS (th_A.sub (by decide)) (m_X9_countFitting l D cT T q hq rf2 trf2 (x6) ix6 (y1) j1) gm_1167 gm_1164 gm_1165 gm_1166 gm_123 (by decide +kernel) ⟨rfl, rfl, Nat.le_of_ble_eq_true rfl, Nat.le_of_ble_eq_true rfl⟩ trf2 kd_8 rfl rfl hl.1 rfl (Nat.le_of_ble_eq_true rfl) dX10_fit_12 ⟨Nat.zero_le _, Nat.zero_le _⟩ (fun x7 H locs ix7 hH hS hF1 => ?_)
    exact th_iret S hK hH hS hr hlocks (th_R.i ix7) dX10_fit_15
  exact J0 s.heap [] ls hH va_S.rf hl

set_option maxRecDepth 100000 in
theorem m_X10_sure (l : Launch) (D : va_G) (cT : Nat → ClassId) (T : Nat → Option Nat) (q : Nat → Int) (hq : qok q) (a0 : Nat) (t0 : T a0 = some 0) (y1 : Int32) (j1 : IV y1 (-2147483648) 2147483647) (y2 : Int32) (j2 : IV y2 (-2147483648) 2147483647) : th_Met l D cT T (kd q) yX10_sure cX10_sure 3 (some .int) (rmk 4 103) [.ref a0, .int y1, .int y2] (th_R T (some (.inl (-2, 5)))) [45] := by
  refine th_start (by decide) (Nat.le_of_ble_eq_true rfl) ?_
  intro p e s m below meth c ls S hK hH hr hlocks hnm hl
  have hx := S.1
  have hb := S.2.1
  have hl : lv_has ls 3 [(0, .ref a0), (1, .int y1), (2, .int y2)] := hl
  have J28 : ∀ (H : Heap) (locs : List Loc) (ls : Array Slot) (w28_0 : Int32), IV w28_0 (-2) 5 → th_H D cT T (kd q) H → va_S (th_A T [45]) s.heap H locs → lv_has ls 3 [] → W p l e (rmk 4 103) s m [.ref a0, .int y1, .int y2].toArray below meth c H locs 0 0 (MQ below (th_Q D cT T (kd q) (th_R T (some (.inl (-2, 5)))) [45]) [.ref a0, .int y1, .int y2].toArray s 0 0 (th_A T [45])) (F0 m 28 ls [.int w28_0]) := by
    intro H locs ls w28_0 iw28_0 hH hS hl
    exact th_iret S hK hH hS hr hlocks (th_R.i iw28_0) dX10_sure_28
  have J28_s0_m1 : ∀ (H : Heap) (locs : List Loc) (ls : Array Slot), th_H D cT T (kd q) H → va_S (th_A T [45]) s.heap H locs → lv_has ls 3 [] → W p l e (rmk 4 103) s m [.ref a0, .int y1, .int y2].toArray below meth c H locs 0 0 (MQ below (th_Q D cT T (kd q) (th_R T (some (.inl (-2, 5)))) [45]) [.ref a0, .int y1, .int y2].toArray s 0 0 (th_A T [45])) (F0 m 28 ls [.int (-1)]) := by
    intro H locs ls hH hS hl
    exact th_iret S hK hH hS hr hlocks (th_R.i (iv_w (iv_c (by decide) : IV (-1) (-1) (-1)) (by decide))) dX10_sure_28
  have J0 : ∀ (H : Heap) (locs : List Loc) (ls : Array Slot), th_H D cT T (kd q) H → va_S (th_A T [45]) s.heap H locs → lv_has ls 3 [(0, .ref a0), (1, .int y1), (2, .int y2)] → W p l e (rmk 4 103) s m [.ref a0, .int y1, .int y2].toArray below meth c H locs 0 0 (MQ below (th_Q D cT T (kd q) (th_R T (some (.inl (-2, 5)))) [45]) [.ref a0, .int y1, .int y2].toArray s 0 0 (th_A T [45])) (F0 m 0 ls []) := by
    intro H locs ls hH hS hl
    refine lv_aload_n hx hb dX10_sure_0 rfl (lv_at hl 0 rfl) ?_
    refine lv_iload_n hx hb dX10_sure_1 rfl (lv_at hl 1 rfl) ?_
    refine th_callVg (n := 1) (As := [.int y1]) S hK hH hS (th_A.sub (by decide)) (m_X10_isFood l D cT T q hq a0 t0 (y1) j1) gm_824 gm_821 gm_823 gm_23 gm_113 (by decide +kernel) ⟨rfl, rfl, Nat.le_of_ble_eq_true rfl, Nat.le_of_ble_eq_true rfl⟩ t0 kd_0 rfl rfl hl.1 rfl (Nat.le_of_ble_eq_true rfl) dX10_sure_2 ⟨Nat.zero_le _, Nat.zero_le _⟩ (fun x1 H locs ix1 ox1 hH hS hF1 => ?_)
    refine lv_if_eq (tgt := 27) hx hb dX10_sure_5 (by decide) (fun c2 => ?_) (fun c2 => ?_)
    · skip
      have ir3 : IV x1 0 0 := iv_eL c2 (iv_c (by decide) : IV 0 0 0)
      refine lv_iconst (v := (-1)) hx hb dX10_sure_27 (by decide) ?_
      exact J28_s0_m1 H locs ls  hH hS (lv_sub hl [] rfl)
    · skip
      have ir4 : IV x1 1 1 := iv_cutL ix1 (iv_c (by decide) : IV 0 0 0) c2 (by decide)
      have ir5 : IV y1 0 2 := ox1 c2
      refine lv_aload_n hx hb dX10_sure_8 rfl (lv_at hl 0 rfl) ?_
      refine th_get S hK hH inG10 t0 kd_0 rfl 7 (by decide) gm_512 rfl rfl dX10_sure_9 (fun v6 hv6 fv6 => ?_)
      obtain ⟨rf7, rfl, trf7⟩ := th_V.ref hv6
      refine lv_aload_n hx hb dX10_sure_12 rfl (lv_at hl 0 rfl) ?_
      refine th_get S hK hH inG10 t0 kd_0 rfl 2 (by decide) gm_507 rfl rfl dX10_sure_13 (fun v8 hv8 fv8 => ?_)
      obtain ⟨rf9, rfl, trf9⟩ := th_V.ref hv8
      refine th_get S hK hH inG4 trf9 kd_3 rfl 11 (by decide) gm_277 rfl rfl dX10_sure_16 (fun v10 hv10 fv10 => ?_)
      obtain ⟨x11, rfl, ix11⟩ := th_V.int hv10
      refine lv_iload_n hx hb dX10_sure_19 rfl (lv_at hl 1 rfl) ?_
      refine lv_iload_n hx hb dX10_sure_20 rfl (lv_at hl 2 rfl) ?_
      refine th_callVi (n := 3) (As := [.int x11, .int y1, .int y2]) S hK hH hS (th_A.sub (by decide)) (m_X9_sureLiking l D cT T q hq rf7 trf7 (x11) ix11 (y1) ir5 (y2) j2) gm_1184 gm_1181 gm_1182 gm_1183 gm_123 (by decide +kernel) ⟨rfl, rfl, Nat.le_of_ble_eq_true rfl, Nat.le_of_ble_eq_true rfl⟩ trf7 kd_8 rfl rfl hl.1 rfl (Nat.le_of_ble_eq_true rfl) dX10_sure_21 ⟨Nat.zero_le _, Nat.zero_le _⟩ (fun x12 H locs ix12 hH hS hF1 => ?_)
      refine lv_goto (tgt := 28) hx hb dX10_sure_24 (by decide) ?_
      exact J28 H locs ls x12 ix12 hH hS (lv_sub hl [] rfl)
  exact J0 s.heap [] ls hH va_S.rf hl

set_option maxRecDepth 100000 in
theorem m_X10_ask (l : Launch) (D : va_G) (cT : Nat → ClassId) (T : Nat → Option Nat) (q : Nat → Int) (hq : qok q) (a0 : Nat) (t0 : T a0 = some 0) (y1 : Int32) (j1 : IV y1 (-2147483648) 2147483647) (y2 : Int32) (j2 : IV y2 (-2147483648) 2147483647) (y3 : Int32) (j3 : IV y3 (-2147483648) 2147483647) : th_Met l D cT T (kd q) yX10_ask cX10_ask 4 (some .int) (rmk 4 109) [.ref a0, .int y1, .int y2, .int y3] (th_R T (some (.inl (-2147483648, 2147483647)))) [45] := by
  refine th_start (by decide) (Nat.le_of_ble_eq_true rfl) ?_
  intro p e s m below meth c ls S hK hH hr hlocks hnm hl
  have hx := S.1
  have hb := S.2.1
  have hl : lv_has ls 4 [(0, .ref a0), (1, .int y1), (2, .int y2), (3, .int y3)] := hl
  have J26 : ∀ (H : Heap) (locs : List Loc) (ls : Array Slot), th_H D cT T (kd q) H → va_S (th_A T [45]) s.heap H locs → lv_has ls 4 [] → W p l e (rmk 4 109) s m [.ref a0, .int y1, .int y2, .int y3].toArray below meth c H locs 0 0 (MQ below (th_Q D cT T (kd q) (th_R T (some (.inl (-2147483648, 2147483647)))) [45]) [.ref a0, .int y1, .int y2, .int y3].toArray s 0 0 (th_A T [45])) (F0 m 26 ls []) := by
    intro H locs ls hH hS hl
    refine lv_iconst (v := (-1)) hx hb dX10_ask_26 (by decide) ?_
    exact th_iret S hK hH hS hr hlocks (th_R.i (iv_top _)) dX10_ask_27
  have J0 : ∀ (H : Heap) (locs : List Loc) (ls : Array Slot), th_H D cT T (kd q) H → va_S (th_A T [45]) s.heap H locs → lv_has ls 4 [(0, .ref a0), (1, .int y1), (2, .int y2), (3, .int y3)] → W p l e (rmk 4 109) s m [.ref a0, .int y1, .int y2, .int y3].toArray below meth c H locs 0 0 (MQ below (th_Q D cT T (kd q) (th_R T (some (.inl (-2147483648, 2147483647)))) [45]) [.ref a0, .int y1, .int y2, .int y3].toArray s 0 0 (th_A T [45])) (F0 m 0 ls []) := by
    intro H locs ls hH hS hl
    refine lv_iload_n hx hb dX10_ask_0 rfl (lv_at hl 1 rfl) ?_
    refine th_callSg (n := 1) (As := [.int y1]) S hK hH hS (th_A.sub (by decide)) (m_X10_isTrialHunger l D cT T q hq (y1) j1) gm_1142 gm_1140 gm_1141 gm_113 (by decide +kernel) ⟨rfl, rfl, Nat.le_of_ble_eq_true rfl, Nat.le_of_ble_eq_true rfl⟩ rfl hl.1 rfl (Nat.le_of_ble_eq_true rfl) dX10_ask_1 ⟨Nat.zero_le _, Nat.zero_le _⟩ (fun x1 H locs ix1 ox1 hH hS hF1 => ?_)
    refine lv_if_eq (tgt := 26) hx hb dX10_ask_4 (by decide) (fun c2 => ?_) (fun c2 => ?_)
    · skip
      have ir3 : IV x1 0 0 := iv_eL c2 (iv_c (by decide) : IV 0 0 0)
      exact J26 H locs ls  hH hS (lv_sub hl [] rfl)
    · skip
      have ir4 : IV x1 1 1 := iv_cutL ix1 (iv_c (by decide) : IV 0 0 0) c2 (by decide)
      have ir5 : IV y1 1 99 := ox1 c2
      refine lv_iload_n hx hb dX10_ask_7 rfl (lv_at hl 2 rfl) ?_
      refine lv_if_lt (tgt := 26) hx hb dX10_ask_8 (by decide) (fun c6 => ?_) (fun c6 => ?_)
      · skip
        have ir7 : IV y2 (-2147483648) (-1) := iv_uL j2 (iv_c (by decide) : IV 0 0 0) (iv_lt c6) (by decide)
        exact J26 H locs ls  hH hS (lv_sub hl [] rfl)
      · skip
        have ir8 : IV y2 0 2147483647 := iv_vR (iv_c (by decide) : IV 0 0 0) j2 (iv_nlt c6) (by decide)
        refine lv_iload_n hx hb dX10_ask_11 rfl (lv_at hl 2 rfl) ?_
        refine lv_iconst (v := 1) hx hb dX10_ask_12 (by decide) ?_
        refine lv_icmp_gt (tgt := 26) hx hb dX10_ask_13 (by decide) (fun c9 => ?_) (fun c9 => ?_)
        · skip
          have ir10 : IV y2 2 2147483647 := iv_uR (iv_c (by decide) : IV 1 1 1) ir8 (iv_lt c9) (by decide)
          exact J26 H locs ls  hH hS (lv_sub hl [] rfl)
        · skip
          have ir11 : IV y2 0 1 := iv_vL ir8 (iv_c (by decide) : IV 1 1 1) (iv_nlt c9) (by decide)
          refine lv_aload_n hx hb dX10_ask_16 rfl (lv_at hl 0 rfl) ?_
          refine th_get S hK hH inG10 t0 kd_0 rfl 2 (by decide) gm_507 rfl rfl dX10_ask_17 (fun v12 hv12 fv12 => ?_)
          obtain ⟨rf13, rfl, trf13⟩ := th_V.ref hv12
          refine th_get S hK hH inG4 trf13 kd_3 rfl 11 (by decide) gm_277 rfl rfl dX10_ask_20 (fun v14 hv14 fv14 => ?_)
          obtain ⟨x15, rfl, ix15⟩ := th_V.int hv14
          refine lv_if_ne (tgt := 28) hx hb dX10_ask_23 (by decide) (fun c16 => ?_) (fun c16 => ?_)
          · skip
            have ir17 : IV x15 1 3 := iv_cutL ix15 (iv_c (by decide) : IV 0 0 0) c16 (by decide)
            refine lv_aload_n hx hb dX10_ask_28 rfl (lv_at hl 0 rfl) ?_
            refine th_get S hK hH inG10 t0 kd_0 rfl 7 (by decide) gm_512 rfl rfl dX10_ask_29 (fun v18 hv18 fv18 => ?_)
            obtain ⟨rf19, rfl, trf19⟩ := th_V.ref hv18
            refine lv_aload_n hx hb dX10_ask_32 rfl (lv_at hl 0 rfl) ?_
            refine th_getK S hK fv12 inG10 rfl (by decide) gm_507 rfl dX10_ask_33 ?_
            refine th_getK S hK fv14 inG4 rfl (by decide) gm_277 rfl dX10_ask_36 ?_
            refine lv_iload_n hx hb dX10_ask_39 rfl (lv_at hl 1 rfl) ?_
            refine lv_iload_n hx hb dX10_ask_40 rfl (lv_at hl 2 rfl) ?_
            refine lv_iload_n hx hb dX10_ask_41 rfl (lv_at hl 3 rfl) ?_
            refine th_callVi (n := 4) (As := [.int x15, .int y1, .int y2, .int y3]) S hK hH hS (th_A.sub (by decide)) (m_X9_nextTrial l D cT T q hq rf19 trf19 (x15) (iv_w ir17 (by decide)) (y1) (iv_top _) (y2) (iv_top _) (y3) j3) gm_1193 gm_1190 gm_1191 gm_1192 gm_123 (by decide +kernel) ⟨rfl, rfl, Nat.le_of_ble_eq_true rfl, Nat.le_of_ble_eq_true rfl⟩ trf19 kd_8 rfl rfl hl.1 rfl (Nat.le_of_ble_eq_true rfl) dX10_ask_42 ⟨Nat.zero_le _, Nat.zero_le _⟩ (fun x22 H locs ix22 hH hS hF1 => ?_)
            have f23 := fv12.kept (hF1 _ fv12.lt (th_off t0 (by decide)))
            have f24 := fv14.kept (hF1 _ fv14.lt (th_off trf13 (by decide)))
            exact th_iret S hK hH hS hr hlocks (th_R.i ix22) dX10_ask_45
          · skip
            have ir25 : IV x15 0 0 := iv_eL c16 (iv_c (by decide) : IV 0 0 0)
            exact J26 H locs ls  hH hS (lv_sub hl [] rfl)
  exact J0 s.heap [] ls hH va_S.rf hl

set_option maxRecDepth 100000 in
theorem m_X10_image (l : Launch) (D : va_G) (cT : Nat → ClassId) (T : Nat → Option Nat) (q : Nat → Int) (hq : qok q) (a0 : Nat) (t0 : T a0 = some 0) (y1 : Int32) (j1 : IV y1 (-2147483648) 2147483647) : th_Met l D cT T (kd q) yX10_image cX10_image 2 (some .int) (rmk 2 81) [.ref a0, .int y1] (th_R T (some (.inl (-2147483648, 2147483647)))) [0, 29] := by
  refine th_start (by decide) (Nat.le_of_ble_eq_true rfl) ?_
  intro p e s m below meth c ls S hK hH hr hlocks hnm hl
  have hx := S.1
  have hb := S.2.1
  have hl : lv_has ls 2 [(0, .ref a0), (1, .int y1)] := hl
  have J9 : ∀ (H : Heap) (locs : List Loc) (ls : Array Slot), th_H D cT T (kd q) H → va_S (th_A T [0, 29]) s.heap H locs → lv_has ls 2 [] → W p l e (rmk 2 81) s m [.ref a0, .int y1].toArray below meth c H locs 0 0 (MQ below (th_Q D cT T (kd q) (th_R T (some (.inl (-2147483648, 2147483647)))) [0, 29]) [.ref a0, .int y1].toArray s 0 0 (th_A T [0, 29])) (F0 m 9 ls []) := by
    intro H locs ls hH hS hl
    refine lv_iconst (v := (-1)) hx hb dX10_image_9 (by decide) ?_
    exact th_iret S hK hH hS hr hlocks (th_R.i (iv_top _)) dX10_image_10
  have J0 : ∀ (H : Heap) (locs : List Loc) (ls : Array Slot), th_H D cT T (kd q) H → va_S (th_A T [0, 29]) s.heap H locs → lv_has ls 2 [(0, .ref a0), (1, .int y1)] → W p l e (rmk 2 81) s m [.ref a0, .int y1].toArray below meth c H locs 0 0 (MQ below (th_Q D cT T (kd q) (th_R T (some (.inl (-2147483648, 2147483647)))) [0, 29]) [.ref a0, .int y1].toArray s 0 0 (th_A T [0, 29])) (F0 m 0 ls []) := by
    intro H locs ls hH hS hl
    refine lv_iload_n hx hb dX10_image_0 rfl (lv_at hl 1 rfl) ?_
    refine lv_if_lt (tgt := 9) hx hb dX10_image_1 (by decide) (fun c1 => ?_) (fun c1 => ?_)
    · skip
      have ir2 : IV y1 (-2147483648) (-1) := iv_uL j1 (iv_c (by decide) : IV 0 0 0) (iv_lt c1) (by decide)
      exact J9 H locs ls  hH hS (lv_sub hl [] rfl)
    · skip
      have ir3 : IV y1 0 2147483647 := iv_vR (iv_c (by decide) : IV 0 0 0) j1 (iv_nlt c1) (by decide)
      refine lv_iload_n hx hb dX10_image_4 rfl (lv_at hl 1 rfl) ?_
      refine lv_iconst (v := 3) hx hb dX10_image_5 (by decide) ?_
      refine lv_icmp_lt (tgt := 11) hx hb dX10_image_6 (by decide) (fun c4 => ?_) (fun c4 => ?_)
      · skip
        have ir5 : IV y1 0 2 := iv_uL ir3 (iv_c (by decide) : IV 3 3 3) (iv_lt c4) (by decide)
        refine lv_aload_n hx hb dX10_image_11 rfl (lv_at hl 0 rfl) ?_
        refine th_get S hK hH inG10 t0 kd_0 rfl 8 (by decide) gm_513 rfl rfl dX10_image_12 (fun v6 hv6 fv6 => ?_)
        obtain ⟨rf7, rfl, trf7⟩ := th_V.ref hv6
        refine lv_iload_n hx hb dX10_image_15 rfl (lv_at hl 1 rfl) ?_
        refine th_aald S hK hH trf7 kd_33 (th_in (hi := 2) ir5 (by decide)) dX10_image_16 (fun v8 hv8 => ?_)
        obtain ⟨rf9, rfl, trf9⟩ := th_V.ref hv8
        refine lv_aload_n hx hb dX10_image_17 rfl (lv_at hl 0 rfl) ?_
        refine th_get S hK hH inG10 t0 kd_0 rfl 4 (by decide) gm_509 rfl rfl dX10_image_18 (fun v10 hv10 fv10 => ?_)
        obtain ⟨rf11, rfl, trf11⟩ := th_V.ref hv10
        refine th_callVr (n := 0) (As := []) S hK hH hS (th_A.sub (by decide)) (m_X3_now l D cT T q hq rf11 trf11) gm_828 gm_825 gm_826 gm_827 gm_120 (by decide +kernel) ⟨rfl, rfl, Nat.le_of_ble_eq_true rfl, Nat.le_of_ble_eq_true rfl⟩ trf11 kd_5 rfl rfl hl.1 rfl (Nat.le_of_ble_eq_true rfl) dX10_image_21 ⟨Nat.zero_le _, Nat.zero_le _⟩ (fun rf12 H locs trf12 hH hS hF1 => ?_)
        have f13 := fv6.kept (hF1 _ fv6.lt (th_off t0 (by decide)))
        refine th_callVv (n := 1) (As := [.ref rf12]) S hK hH hS (th_A.sub (by decide)) (m_X7_copyFrom l D cT T q hq rf9 trf9 rf12 trf12) gm_809 gm_1203 gm_807 gm_808 gm_118 (by decide +kernel) ⟨rfl, rfl, Nat.le_of_ble_eq_true rfl, Nat.le_of_ble_eq_true rfl⟩ trf9 kd_10 rfl rfl hl.1 rfl (Nat.le_of_ble_eq_true rfl) dX10_image_24 ⟨Nat.zero_le _, Nat.zero_le _⟩ (fun H locs hH hS hF1 => ?_)
        have f14 := f13.kept (hF1 _ f13.lt (th_off t0 (by decide)))
        refine lv_aload_n hx hb dX10_image_27 rfl (lv_at hl 0 rfl) ?_
        refine lv_dup hx hb dX10_image_28 rfl ?_
        refine th_get S hK hH inG10 t0 kd_0 rfl 9 (by decide) gm_514 rfl rfl dX10_image_29 (fun v15 hv15 fv15 => ?_)
        obtain ⟨x16, rfl, ix16⟩ := th_V.int hv15
        refine lv_iconst (v := 1) hx hb dX10_image_32 (by decide) ?_
        refine lv_iload_n hx hb dX10_image_33 rfl (lv_at hl 1 rfl) ?_
        refine lv_ishl hx hb dX10_image_34 ?_
        refine lv_topi (fun x17 ex17 => ?_)
        have ix17 := iv_top x17
        refine lv_ior hx hb dX10_image_35 ?_
        refine lv_topi (fun x18 ex18 => ?_)
        have ix18 := iv_top x18
        refine th_put S hK hH hS ⟨0, by decide, t0⟩ inG10 tyX10 tyX10_ok nmX10 t0 kd_0 rfl 9 (by decide) gm_514 rfl rfl rfl rfl (th_iv ix18) (fun _ _ => trivial) (ty := .int) (by decide +kernel) rfl rfl dX10_image_36 (fun H locs hH hS hq1 hp1 => ?_)
        have f19 := hp1.2 8 _ (by decide) (by decide) f14
        have f20 := hp1.1
        refine lv_aload_n hx hb dX10_image_39 rfl (lv_at hl 0 rfl) ?_
        refine th_getK S hK f19 inG10 rfl (by decide) gm_513 rfl dX10_image_40 ?_
        refine lv_iload_n hx hb dX10_image_43 rfl (lv_at hl 1 rfl) ?_
        refine th_aald S hK hH trf7 kd_33 (th_in (hi := 2) ir5 (by decide)) dX10_image_44 (fun v22 hv22 => ?_)
        obtain ⟨rf23, rfl, trf23⟩ := th_V.ref hv22
        refine th_get S hK hH inG7 trf23 kd_10 rfl 0 (by decide) gm_231 rfl rfl dX10_image_45 (fun v24 hv24 fv24 => ?_)
        obtain ⟨rf25, rfl, trf25⟩ := th_V.ref hv24
        refine lv_bipush (v := 40) hx hb dX10_image_48 (by decide) ?_
        refine th_iald S hK hH trf25 kd_29 (th_in (hi := 40) (iv_w (iv_c (by decide) : IV 40 40 40) (by decide)) (by decide)) dX10_image_50 (fun v26 hv26 => ?_)
        obtain ⟨x27, rfl, ix27⟩ := th_V.int hv26
        exact th_iret S hK hH hS hr hlocks (th_R.i ix27) dX10_image_51
      · skip
        have ir28 : IV y1 3 2147483647 := iv_vR (iv_c (by decide) : IV 3 3 3) ir3 (iv_nlt c4) (by decide)
        exact J9 H locs ls  hH hS (lv_sub hl [] rfl)
  exact J0 s.heap [] ls hH va_S.rf hl

set_option maxRecDepth 100000 in
theorem m_X10_back (l : Launch) (D : va_G) (cT : Nat → ClassId) (T : Nat → Option Nat) (q : Nat → Int) (hT : tok T) (hqr : qokr q) (a0 : Nat) (t0 : T a0 = some 0) (y1 : Int32) (j1 : IV y1 (-2147483648) 2147483647) : th_MetX l D cT T q yX10_back cX10_back 2 (some .int) (rmk 3 102) [.ref a0, .int y1] (th_R T (some (.inl (-2147483648, 2147483647)))) [5, 29] := by
  refine th_startX (by decide) (Nat.le_of_ble_eq_true rfl) ?_
  have hq := hqr.1
  intro p e s m below meth c ls S hK hH hr hlocks hnm hl
  have hx := S.1
  have hb := S.2.1
  have hl : lv_has ls 2 [(0, .ref a0), (1, .int y1)] := hl
  have J20 : ∀ (H : Heap) (locs : List Loc) (ls : Array Slot), th_H D cT T (kd q) H → va_S (th_A T [5, 29]) s.heap H locs → lv_has ls 2 [] → W p l e (rmk 3 102) s m [.ref a0, .int y1].toArray below meth c H locs 0 0 (MQ below (th_QX D cT T q (th_R T (some (.inl (-2147483648, 2147483647)))) [5, 29]) [.ref a0, .int y1].toArray s 0 0 (th_A T [5, 29])) (F0 m 20 ls []) := by
    intro H locs ls hH hS hl
    refine lv_iconst (v := (-1)) hx hb dX10_back_20 (by decide) ?_
    exact th_iretX S hK hH hS hr hlocks hqr rfl (th_R.i (iv_top _)) dX10_back_21
  have J0 : ∀ (H : Heap) (locs : List Loc) (ls : Array Slot), th_H D cT T (kd q) H → va_S (th_A T [5, 29]) s.heap H locs → lv_has ls 2 [(0, .ref a0), (1, .int y1)] → W p l e (rmk 3 102) s m [.ref a0, .int y1].toArray below meth c H locs 0 0 (MQ below (th_QX D cT T q (th_R T (some (.inl (-2147483648, 2147483647)))) [5, 29]) [.ref a0, .int y1].toArray s 0 0 (th_A T [5, 29])) (F0 m 0 ls []) := by
    intro H locs ls hH hS hl
    refine lv_iload_n hx hb dX10_back_0 rfl (lv_at hl 1 rfl) ?_
    refine lv_if_lt (tgt := 20) hx hb dX10_back_1 (by decide) (fun c1 => ?_) (fun c1 => ?_)
    · skip
      have ir2 : IV y1 (-2147483648) (-1) := iv_uL j1 (iv_c (by decide) : IV 0 0 0) (iv_lt c1) (by decide)
      have ir2a := ir2.1
      have ir2b := ir2.2
      exact J20 H locs ls  hH hS (lv_sub hl [] rfl)
    · skip
      have ir3 : IV y1 0 2147483647 := iv_vR (iv_c (by decide) : IV 0 0 0) j1 (iv_nlt c1) (by decide)
      have ir3a := ir3.1
      have ir3b := ir3.2
      refine lv_iload_n hx hb dX10_back_4 rfl (lv_at hl 1 rfl) ?_
      refine lv_iconst (v := 3) hx hb dX10_back_5 (by decide) ?_
      refine lv_icmp_ge (tgt := 20) hx hb dX10_back_6 (by decide) (fun c4 => ?_) (fun c4 => ?_)
      · skip
        have ir5 : IV y1 3 2147483647 := iv_vR (iv_c (by decide) : IV 3 3 3) ir3 (iv_le c4) (by decide)
        have ir5a := ir5.1
        have ir5b := ir5.2
        exact J20 H locs ls  hH hS (lv_sub hl [] rfl)
      · skip
        have ir6 : IV y1 0 2 := iv_uL ir3 (iv_c (by decide) : IV 3 3 3) (iv_nle c4) (by decide)
        have ir6a := ir6.1
        have ir6b := ir6.2
        refine lv_aload_n hx hb dX10_back_9 rfl (lv_at hl 0 rfl) ?_
        refine th_get S hK hH inG10 t0 kd_0 rfl 9 (by decide) gm_514 rfl rfl dX10_back_10 (fun v7 hv7 fv7 => ?_)
        obtain ⟨x8, rfl, ix8⟩ := th_V.int hv7
        refine lv_iload_n hx hb dX10_back_13 rfl (lv_at hl 1 rfl) ?_
        refine lv_ishr hx hb dX10_back_14 ?_
        refine lv_topi (fun x9 ex9 => ?_)
        have ix9 := iv_top x9
        refine lv_iconst (v := 1) hx hb dX10_back_15 (by decide) ?_
        refine lv_iand hx hb dX10_back_16 ?_
        refine lv_topi (fun x10 ex10 => ?_)
        have ix10 : IV x10 0 1 := by rw [ex10]; exact iv_and (h2 := 1) (iv_w (iv_c (by decide) : IV 1 1 1) (by decide)) (by decide)
        refine lv_if_ne (tgt := 22) hx hb dX10_back_17 (by decide) (fun c11 => ?_) (fun c11 => ?_)
        · skip
          have ir12 : IV x10 1 1 := iv_cutL ix10 (iv_c (by decide) : IV 0 0 0) c11 (by decide)
          have ir12a := ir12.1
          have ir12b := ir12.2
          refine lv_aload_n hx hb dX10_back_22 rfl (lv_at hl 0 rfl) ?_
          refine th_get S hK hH inG10 t0 kd_0 rfl 4 (by decide) gm_509 rfl rfl dX10_back_23 (fun v13 hv13 fv13 => ?_)
          obtain ⟨rf14, rfl, trf14⟩ := th_V.ref hv13
          refine lv_aload_n hx hb dX10_back_26 rfl (lv_at hl 0 rfl) ?_
          refine th_get S hK hH inG10 t0 kd_0 rfl 8 (by decide) gm_513 rfl rfl dX10_back_27 (fun v15 hv15 fv15 => ?_)
          obtain ⟨rf16, rfl, trf16⟩ := th_V.ref hv15
          refine lv_iload_n hx hb dX10_back_30 rfl (lv_at hl 1 rfl) ?_
          refine th_aald S hK hH trf16 kd_33 (th_in (hi := 2) ir6 (by decide)) dX10_back_31 (fun v17 hv17 => ?_)
          obtain ⟨rf18, rfl, trf18⟩ := th_V.ref hv17
          refine th_callVX (n := 1) (As := [.ref rf18]) S hK hH hS (th_A.sub (by decide)) (m_X3_restart l D cT T q hT hqr rf14 trf14 rf18 trf18) gm_805 gm_802 gm_803 gm_804 gm_120 (by decide +kernel) ⟨rfl, rfl, Nat.le_of_ble_eq_true rfl, Nat.le_of_ble_eq_true rfl⟩ trf14 kd_5 rfl rfl hl.1 rfl (Nat.le_of_ble_eq_true rfl) dX10_back_32 ⟨Nat.zero_le _, Nat.zero_le _⟩ (fun wq19 q19 H locs hvq19 hrq19 h0q19 hH hS hF1 => ?_)
          have hvq19 : wq19 = none := hvq19
          subst hvq19
          have hqq19 := hrq19.1
          show W p l e (rmk 3 102) s m [.ref a0, .int y1].toArray below meth c H locs 0 0 (MQ below (th_QX D cT T q (th_R T (some (.inl (-2147483648, 2147483647)))) [5, 29]) [.ref a0, .int y1].toArray s 0 0 (th_A T [5, 29])) (F0 m 35 ls [])
          have f20 := fv15.kept (hF1 _ fv15.lt (th_off t0 (by decide)))
          refine lv_aload_n hx hb dX10_back_35 rfl (lv_at hl 0 rfl) ?_
          refine th_getK S hK f20 inG10 rfl (by decide) gm_513 rfl dX10_back_36 ?_
          refine lv_iload_n hx hb dX10_back_39 rfl (lv_at hl 1 rfl) ?_
          refine th_aald S hK hH trf16 kd_33 (th_in (hi := 2) ir6 (by decide)) dX10_back_40 (fun v22 hv22 => ?_)
          obtain ⟨rf23, rfl, trf23⟩ := th_V.ref hv22
          refine th_get S hK hH inG7 trf23 kd_10 rfl 0 (by decide) gm_231 rfl rfl dX10_back_41 (fun v24 hv24 fv24 => ?_)
          obtain ⟨rf25, rfl, trf25⟩ := th_V.ref hv24
          refine lv_bipush (v := 40) hx hb dX10_back_44 (by decide) ?_
          refine th_iald S hK hH trf25 kd_29 (th_in (hi := 40) (iv_w (iv_c (by decide) : IV 40 40 40) (by decide)) (by decide)) dX10_back_46 (fun v26 hv26 => ?_)
          obtain ⟨x27, rfl, ix27⟩ := th_V.int hv26
          exact th_iretX S hK hH hS hr hlocks hrq19 h0q19 (th_R.i ix27) dX10_back_47
        · skip
          have ir28 : IV x10 0 0 := iv_eL c11 (iv_c (by decide) : IV 0 0 0)
          have ir28a := ir28.1
          have ir28b := ir28.2
          exact J20 H locs ls  hH hS (lv_sub hl [] rfl)
  exact J0 s.heap [] ls hH va_S.rf hl

set_option maxRecDepth 100000 in
theorem m_X10_about (l : Launch) (D : va_G) (cT : Nat → ClassId) (T : Nat → Option Nat) (q : Nat → Int) (hq : qok q) (a0 : Nat) (t0 : T a0 = some 0) (y1 : Int32) (j1 : IV y1 (-2147483648) 2147483647) : th_Met l D cT T (kd q) yX10_about cX10_about 3 (some .int) (rmk 1 20) [.ref a0, .int y1] (th_R T (some (.inl (-2147483648, 2147483647)))) [] := by
  refine th_start (by decide) (Nat.le_of_ble_eq_true rfl) ?_
  intro p e s m below meth c ls S hK hH hr hlocks hnm hl
  have hx := S.1
  have hb := S.2.1
  have hl : lv_has ls 3 [(0, .ref a0), (1, .int y1)] := hl
  have J0 : ∀ (H : Heap) (locs : List Loc) (ls : Array Slot), th_H D cT T (kd q) H → va_S (th_A T []) s.heap H locs → lv_has ls 3 [(0, .ref a0), (1, .int y1)] → W p l e (rmk 1 20) s m [.ref a0, .int y1].toArray below meth c H locs 0 0 (MQ below (th_Q D cT T (kd q) (th_R T (some (.inl (-2147483648, 2147483647)))) []) [.ref a0, .int y1].toArray s 0 0 (th_A T [])) (F0 m 0 ls []) := by
    intro H locs ls hH hS hl
    refine lv_aload_n hx hb dX10_about_0 rfl (lv_at hl 0 rfl) ?_
    refine th_get S hK hH inG10 t0 kd_0 rfl 4 (by decide) gm_509 rfl rfl dX10_about_1 (fun v1 hv1 fv1 => ?_)
    obtain ⟨rf2, rfl, trf2⟩ := th_V.ref hv1
    refine th_callVr (n := 0) (As := []) S hK hH hS (th_A.sub (by decide)) (m_X3_now l D cT T q hq rf2 trf2) gm_828 gm_825 gm_826 gm_827 gm_120 (by decide +kernel) ⟨rfl, rfl, Nat.le_of_ble_eq_true rfl, Nat.le_of_ble_eq_true rfl⟩ trf2 kd_5 rfl rfl hl.1 rfl (Nat.le_of_ble_eq_true rfl) dX10_about_4 ⟨Nat.zero_le _, Nat.zero_le _⟩ (fun rf3 H locs trf3 hH hS hF1 => ?_)
    have f4 := fv1.kept (hF1 _ fv1.lt (th_off t0 (by decide)))
    refine th_get S hK hH inG7 trf3 kd_10 rfl 0 (by decide) gm_231 rfl rfl dX10_about_7 (fun v5 hv5 fv5 => ?_)
    obtain ⟨rf6, rfl, trf6⟩ := th_V.ref hv5
    refine lv_astore_n (lv' := [(2, .ref rf6), (0, .ref a0), (1, .int y1)]) hx hb dX10_about_10 rfl hl (by decide) rfl (fun ls hl => ?_)
    refine lv_iload_n hx hb dX10_about_11 rfl (lv_at hl 2 rfl) ?_
    by_cases c7 : y1.toInt < 0 ∨ 14 < y1.toInt
    · refine lv_tableOut (tgt := 199) hx hb dX10_about_12 c7 (by decide) ?_
      refine lv_iconst (v := (-1)) hx hb dX10_about_199 (by decide) ?_
      exact th_iret S hK hH hS hr hlocks (th_R.i (iv_top _)) dX10_about_200
    · rcases (show y1.toInt = 0 ∨ y1.toInt = 1 ∨ y1.toInt = 2 ∨ y1.toInt = 3 ∨ y1.toInt = 4 ∨ y1.toInt = 5 ∨ y1.toInt = 6 ∨ y1.toInt = 7 ∨ y1.toInt = 8 ∨ y1.toInt = 9 ∨ y1.toInt = 10 ∨ y1.toInt = 11 ∨ y1.toInt = 12 ∨ y1.toInt = 13 ∨ y1.toInt = 14 by omega) with c7b | c7b | c7b | c7b | c7b | c7b | c7b | c7b | c7b | c7b | c7b | c7b | c7b | c7b | c7b
      · refine lv_tableIn (tgt := 88) (off := 76) hx hb dX10_about_12 (by omega) (by omega) (by rw [c7b]; rfl) (by decide) ?_
        refine lv_aload_n hx hb dX10_about_88 rfl (lv_at hl 1 rfl) ?_
        refine th_get S hK hH inG10 t0 kd_0 rfl 2 (by decide) gm_507 rfl rfl dX10_about_89 (fun v8 hv8 fv8 => ?_)
        obtain ⟨rf9, rfl, trf9⟩ := th_V.ref hv8
        refine th_get S hK hH inG4 trf9 kd_3 rfl 12 (by decide) gm_282 rfl rfl dX10_about_92 (fun v10 hv10 fv10 => ?_)
        obtain ⟨x11, rfl, ix11⟩ := th_V.int hv10
        exact th_iret S hK hH hS hr hlocks (th_R.i (iv_top _)) dX10_about_95
      · refine lv_tableIn (tgt := 96) (off := 84) hx hb dX10_about_12 (by omega) (by omega) (by rw [c7b]; rfl) (by decide) ?_
        refine lv_aload_n hx hb dX10_about_96 rfl (lv_at hl 1 rfl) ?_
        refine th_get S hK hH inG10 t0 kd_0 rfl 2 (by decide) gm_507 rfl rfl dX10_about_97 (fun v12 hv12 fv12 => ?_)
        obtain ⟨rf13, rfl, trf13⟩ := th_V.ref hv12
        refine th_get S hK hH inG4 trf13 kd_3 rfl 11 (by decide) gm_277 rfl rfl dX10_about_100 (fun v14 hv14 fv14 => ?_)
        obtain ⟨x15, rfl, ix15⟩ := th_V.int hv14
        exact th_iret S hK hH hS hr hlocks (th_R.i (iv_top _)) dX10_about_103
      · refine lv_tableIn (tgt := 104) (off := 92) hx hb dX10_about_12 (by omega) (by omega) (by rw [c7b]; rfl) (by decide) ?_
        refine lv_aload_n hx hb dX10_about_104 rfl (lv_at hl 1 rfl) ?_
        refine th_get S hK hH inG10 t0 kd_0 rfl 2 (by decide) gm_507 rfl rfl dX10_about_105 (fun v16 hv16 fv16 => ?_)
        obtain ⟨rf17, rfl, trf17⟩ := th_V.ref hv16
        refine th_get S hK hH inG4 trf17 kd_3 rfl 13 (by decide) gm_287 rfl rfl dX10_about_108 (fun v18 hv18 fv18 => ?_)
        obtain ⟨x19, rfl, ix19⟩ := th_V.int hv18
        exact th_iret S hK hH hS hr hlocks (th_R.i (iv_top _)) dX10_about_111
      · refine lv_tableIn (tgt := 112) (off := 100) hx hb dX10_about_12 (by omega) (by omega) (by rw [c7b]; rfl) (by decide) ?_
        refine lv_aload_n hx hb dX10_about_112 rfl (lv_at hl 1 rfl) ?_
        refine th_get S hK hH inG10 t0 kd_0 rfl 2 (by decide) gm_507 rfl rfl dX10_about_113 (fun v20 hv20 fv20 => ?_)
        obtain ⟨rf21, rfl, trf21⟩ := th_V.ref hv20
        refine th_get S hK hH inG4 trf21 kd_3 rfl 14 (by decide) gm_290 rfl rfl dX10_about_116 (fun v22 hv22 fv22 => ?_)
        obtain ⟨x23, rfl, ix23⟩ := th_V.int hv22
        exact th_iret S hK hH hS hr hlocks (th_R.i ix23) dX10_about_119
      · refine lv_tableIn (tgt := 120) (off := 108) hx hb dX10_about_12 (by omega) (by omega) (by rw [c7b]; rfl) (by decide) ?_
        refine lv_aload_n hx hb dX10_about_120 rfl (lv_at hl 0 rfl) ?_
        refine lv_bipush (v := 40) hx hb dX10_about_121 (by decide) ?_
        refine th_iald S hK hH trf6 kd_29 (th_in (hi := 40) (iv_w (iv_c (by decide) : IV 40 40 40) (by decide)) (by decide)) dX10_about_123 (fun v24 hv24 => ?_)
        obtain ⟨x25, rfl, ix25⟩ := th_V.int hv24
        exact th_iret S hK hH hS hr hlocks (th_R.i ix25) dX10_about_124
      · refine lv_tableIn (tgt := 125) (off := 113) hx hb dX10_about_12 (by omega) (by omega) (by rw [c7b]; rfl) (by decide) ?_
        refine lv_aload_n hx hb dX10_about_125 rfl (lv_at hl 0 rfl) ?_
        refine lv_bipush (v := 41) hx hb dX10_about_126 (by decide) ?_
        refine th_iald S hK hH trf6 kd_29 (th_in (hi := 41) (iv_w (iv_c (by decide) : IV 41 41 41) (by decide)) (by decide)) dX10_about_128 (fun v26 hv26 => ?_)
        obtain ⟨x27, rfl, ix27⟩ := th_V.int hv26
        exact th_iret S hK hH hS hr hlocks (th_R.i ix27) dX10_about_129
      · refine lv_tableIn (tgt := 130) (off := 118) hx hb dX10_about_12 (by omega) (by omega) (by rw [c7b]; rfl) (by decide) ?_
        refine lv_aload_n hx hb dX10_about_130 rfl (lv_at hl 0 rfl) ?_
        refine lv_bipush (v := 42) hx hb dX10_about_131 (by decide) ?_
        refine th_iald S hK hH trf6 kd_29 (th_in (hi := 42) (iv_w (iv_c (by decide) : IV 42 42 42) (by decide)) (by decide)) dX10_about_133 (fun v28 hv28 => ?_)
        obtain ⟨x29, rfl, ix29⟩ := th_V.int hv28
        exact th_iret S hK hH hS hr hlocks (th_R.i ix29) dX10_about_134
      · refine lv_tableIn (tgt := 135) (off := 123) hx hb dX10_about_12 (by omega) (by omega) (by rw [c7b]; rfl) (by decide) ?_
        refine lv_aload_n hx hb dX10_about_135 rfl (lv_at hl 0 rfl) ?_
        refine lv_bipush (v := 39) hx hb dX10_about_136 (by decide) ?_
        refine th_iald S hK hH trf6 kd_29 (th_in (hi := 39) (iv_w (iv_c (by decide) : IV 39 39 39) (by decide)) (by decide)) dX10_about_138 (fun v30 hv30 => ?_)
        obtain ⟨x31, rfl, ix31⟩ := th_V.int hv30
        exact th_iret S hK hH hS hr hlocks (th_R.i ix31) dX10_about_139
      · refine lv_tableIn (tgt := 140) (off := 128) hx hb dX10_about_12 (by omega) (by omega) (by rw [c7b]; rfl) (by decide) ?_
        refine lv_aload_n hx hb dX10_about_140 rfl (lv_at hl 1 rfl) ?_
        refine th_getK S hK f4 inG10 rfl (by decide) gm_509 rfl dX10_about_141 ?_
        refine th_get S hK hH inG3 trf2 kd_5 rfl 2 (by decide) gm_388 rfl rfl dX10_about_144 (fun v33 hv33 fv33 => ?_)
        obtain ⟨x34, rfl, ix34⟩ := th_V.int hv33
        have ix34 : IV x34 0 40 := iv_w ix34 (qok_1 hq)
        exact th_iret S hK hH hS hr hlocks (th_R.i (iv_top _)) dX10_about_147
      · refine lv_tableIn (tgt := 148) (off := 136) hx hb dX10_about_12 (by omega) (by omega) (by rw [c7b]; rfl) (by decide) ?_
        refine lv_aload_n hx hb dX10_about_148 rfl (lv_at hl 1 rfl) ?_
        refine th_getK S hK f4 inG10 rfl (by decide) gm_509 rfl dX10_about_149 ?_
        refine th_get S hK hH inG3 trf2 kd_5 rfl 3 (by decide) gm_390 rfl rfl dX10_about_152 (fun v36 hv36 fv36 => ?_)
        obtain ⟨x37, rfl, ix37⟩ := th_V.int hv36
        have ix37 : IV x37 0 40 := iv_w ix37 (qok_2 hq)
        exact th_iret S hK hH hS hr hlocks (th_R.i (iv_top _)) dX10_about_155
      · refine lv_tableIn (tgt := 156) (off := 144) hx hb dX10_about_12 (by omega) (by omega) (by rw [c7b]; rfl) (by decide) ?_
        refine lv_aload_n hx hb dX10_about_156 rfl (lv_at hl 1 rfl) ?_
        refine th_get S hK hH inG10 t0 kd_0 rfl 7 (by decide) gm_512 rfl rfl dX10_about_157 (fun v38 hv38 fv38 => ?_)
        obtain ⟨rf39, rfl, trf39⟩ := th_V.ref hv38
        refine th_get S hK hH inG9 trf39 kd_8 rfl 6 (by decide) gm_482 rfl rfl dX10_about_160 (fun v40 hv40 fv40 => ?_)
        obtain ⟨x41, rfl, ix41⟩ := th_V.int hv40
        exact th_iret S hK hH hS hr hlocks (th_R.i (iv_top _)) dX10_about_163
      · refine lv_tableIn (tgt := 164) (off := 152) hx hb dX10_about_12 (by omega) (by omega) (by rw [c7b]; rfl) (by decide) ?_
        refine lv_aload_n hx hb dX10_about_164 rfl (lv_at hl 1 rfl) ?_
        refine th_get S hK hH inG10 t0 kd_0 rfl 7 (by decide) gm_512 rfl rfl dX10_about_165 (fun v42 hv42 fv42 => ?_)
        obtain ⟨rf43, rfl, trf43⟩ := th_V.ref hv42
        refine th_get S hK hH inG9 trf43 kd_8 rfl 7 (by decide) gm_484 rfl rfl dX10_about_168 (fun v44 hv44 fv44 => ?_)
        obtain ⟨x45, rfl, ix45⟩ := th_V.int hv44
        have ix45 : IV x45 0 100000 := iv_w ix45 (qok_0 hq)
        exact th_iret S hK hH hS hr hlocks (th_R.i (iv_top _)) dX10_about_171
      · refine lv_tableIn (tgt := 172) (off := 160) hx hb dX10_about_12 (by omega) (by omega) (by rw [c7b]; rfl) (by decide) ?_
        refine lv_aload_n hx hb dX10_about_172 rfl (lv_at hl 1 rfl) ?_
        refine th_get S hK hH inG10 t0 kd_0 rfl 0 (by decide) gm_505 rfl rfl dX10_about_173 (fun v46 hv46 fv46 => ?_)
        obtain ⟨rf47, rfl, trf47⟩ := th_V.ref hv46
        refine th_get S hK hH inG8 trf47 kd_1 rfl 4 (by decide) gm_156 rfl rfl dX10_about_176 (fun v48 hv48 fv48 => ?_)
        obtain ⟨x49, rfl, ix49⟩ := th_V.int hv48
        exact th_iret S hK hH hS hr hlocks (th_R.i (iv_top _)) dX10_about_179
      · refine lv_tableIn (tgt := 180) (off := 168) hx hb dX10_about_12 (by omega) (by omega) (by rw [c7b]; rfl) (by decide) ?_
        refine lv_aload_n hx hb dX10_about_180 rfl (lv_at hl 1 rfl) ?_
        refine th_get S hK hH inG10 t0 kd_0 rfl 2 (by decide) gm_507 rfl rfl dX10_about_181 (fun v50 hv50 fv50 => ?_)
        obtain ⟨rf51, rfl, trf51⟩ := th_V.ref hv50
        refine th_get S hK hH inG4 trf51 kd_3 rfl 9 (by decide) gm_270 rfl rfl dX10_about_184 (fun v52 hv52 fv52 => ?_)
        obtain ⟨rf53, rfl, trf53⟩ := th_V.ref hv52
        refine th_get S hK hH inG2 trf53 kd_9 rfl 6 (by decide) gm_203 rfl rfl dX10_about_187 (fun v54 hv54 fv54 => ?_)
        obtain ⟨x55, rfl, ix55⟩ := th_V.int hv54
        exact th_iret S hK hH hS hr hlocks (th_R.i ix55) dX10_about_190
      · refine lv_tableIn (tgt := 191) (off := 179) hx hb dX10_about_12 (by omega) (by omega) (by rw [c7b]; rfl) (by decide) ?_
        refine lv_aload_n hx hb dX10_about_191 rfl (lv_at hl 1 rfl) ?_
        refine th_get S hK hH inG10 t0 kd_0 rfl 6 (by decide) gm_511 rfl rfl dX10_about_192 (fun v56 hv56 fv56 => ?_)
        obtain ⟨rf57, rfl, trf57⟩ := th_V.ref hv56
        refine th_get S hK hH inG5 trf57 kd_7 rfl 2 (by decide) gm_431 rfl rfl dX10_about_195 (fun v58 hv58 fv58 => ?_)
        obtain ⟨x59, rfl, ix59⟩ := th_V.int hv58
        exact th_iret S hK hH hS hr hlocks (th_R.i ix59) dX10_about_198
  exact J0 s.heap [] ls hH va_S.rf hl
