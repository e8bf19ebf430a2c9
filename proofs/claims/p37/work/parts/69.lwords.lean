theorem gm_536 : Cond.methodLink RL 13 yX10_feed ∈ gw := gw_mem 536 (by decide +kernel) (by decide +kernel)
theorem gm_537 : Cond.instanceMethod yX10_feed ∈ gw := gw_mem 537 (by decide +kernel) (by decide +kernel)
theorem gm_538 : Cond.selects RX10 yX10_feed yX10_feed ∈ gw := gw_mem 538 (by decide +kernel) (by decide +kernel)
theorem gm_539 : Cond.code yX10_feed cX10_feed 6 (some .int) ∈ gw := gw_mem 539 (by decide +kernel) (by decide +kernel)
theorem gm_544 : Cond.methodLink RL 18 yX10_end ∈ gw := gw_mem 544 (by decide +kernel) (by decide +kernel)
theorem gm_545 : Cond.instanceMethod yX10_end ∈ gw := gw_mem 545 (by decide +kernel) (by decide +kernel)
theorem gm_546 : Cond.selects RX10 yX10_end yX10_end ∈ gw := gw_mem 546 (by decide +kernel) (by decide +kernel)
theorem gm_547 : Cond.code yX10_end cX10_end 2 (some .int) ∈ gw := gw_mem 547 (by decide +kernel) (by decide +kernel)
theorem gm_548 : Cond.methodLink RL 23 yX10_house ∈ gw := gw_mem 548 (by decide +kernel) (by decide +kernel)
theorem gm_549 : Cond.instanceMethod yX10_house ∈ gw := gw_mem 549 (by decide +kernel) (by decide +kernel)
theorem gm_550 : Cond.selects RX10 yX10_house yX10_house ∈ gw := gw_mem 550 (by decide +kernel) (by decide +kernel)
theorem gm_551 : Cond.code yX10_house cX10_house 2 (some .int) ∈ gw := gw_mem 551 (by decide +kernel) (by decide +kernel)
theorem gm_813 : Cond.methodLink RL 28 yX10_fault ∈ gw := gw_mem 813 (by decide +kernel) (by decide +kernel)
theorem gm_814 : Cond.instanceMethod yX10_fault ∈ gw := gw_mem 814 (by decide +kernel) (by decide +kernel)
theorem gm_815 : Cond.selects RX10 yX10_fault yX10_fault ∈ gw := gw_mem 815 (by decide +kernel) (by decide +kernel)
theorem gm_816 : Cond.code yX10_fault cX10_fault 2 (some .int) ∈ gw := gw_mem 816 (by decide +kernel) (by decide +kernel)
theorem gm_817 : Cond.methodLink RL 32 yX10_store ∈ gw := gw_mem 817 (by decide +kernel) (by decide +kernel)
theorem gm_818 : Cond.instanceMethod yX10_store ∈ gw := gw_mem 818 (by decide +kernel) (by decide +kernel)
theorem gm_819 : Cond.selects RX10 yX10_store yX10_store ∈ gw := gw_mem 819 (by decide +kernel) (by decide +kernel)
theorem gm_820 : Cond.code yX10_store cX10_store 2 (some .int) ∈ gw := gw_mem 820 (by decide +kernel) (by decide +kernel)
theorem gm_829 : Cond.methodLink RL 36 yX10_map ∈ gw := gw_mem 829 (by decide +kernel) (by decide +kernel)
theorem gm_830 : Cond.instanceMethod yX10_map ∈ gw := gw_mem 830 (by decide +kernel) (by decide +kernel)
theorem gm_831 : Cond.selects RX10 yX10_map yX10_map ∈ gw := gw_mem 831 (by decide +kernel) (by decide +kernel)
theorem gm_832 : Cond.code yX10_map cX10_map 4 (some .int) ∈ gw := gw_mem 832 (by decide +kernel) (by decide +kernel)
theorem gm_859 : Cond.methodLink RL 41 yX10_place ∈ gw := gw_mem 859 (by decide +kernel) (by decide +kernel)
theorem gm_860 : Cond.instanceMethod yX10_place ∈ gw := gw_mem 860 (by decide +kernel) (by decide +kernel)
theorem gm_861 : Cond.selects RX10 yX10_place yX10_place ∈ gw := gw_mem 861 (by decide +kernel) (by decide +kernel)
theorem gm_862 : Cond.code yX10_place cX10_place 3 (some .int) ∈ gw := gw_mem 862 (by decide +kernel) (by decide +kernel)
theorem gm_867 : Cond.methodLink RL 45 yX10_taste ∈ gw := gw_mem 867 (by decide +kernel) (by decide +kernel)
theorem gm_868 : Cond.instanceMethod yX10_taste ∈ gw := gw_mem 868 (by decide +kernel) (by decide +kernel)
theorem gm_869 : Cond.selects RX10 yX10_taste yX10_taste ∈ gw := gw_mem 869 (by decide +kernel) (by decide +kernel)
theorem gm_870 : Cond.code yX10_taste cX10_taste 3 (some .int) ∈ gw := gw_mem 870 (by decide +kernel) (by decide +kernel)
theorem gm_876 : Cond.methodLink RL 49 yX10_likes ∈ gw := gw_mem 876 (by decide +kernel) (by decide +kernel)
theorem gm_877 : Cond.instanceMethod yX10_likes ∈ gw := gw_mem 877 (by decide +kernel) (by decide +kernel)
theorem gm_878 : Cond.selects RX10 yX10_likes yX10_likes ∈ gw := gw_mem 878 (by decide +kernel) (by decide +kernel)
theorem gm_879 : Cond.code yX10_likes cX10_likes 3 (some .int) ∈ gw := gw_mem 879 (by decide +kernel) (by decide +kernel)
theorem gm_880 : Cond.methodLink RL 53 yX10_trough ∈ gw := gw_mem 880 (by decide +kernel) (by decide +kernel)
theorem gm_881 : Cond.instanceMethod yX10_trough ∈ gw := gw_mem 881 (by decide +kernel) (by decide +kernel)
theorem gm_882 : Cond.selects RX10 yX10_trough yX10_trough ∈ gw := gw_mem 882 (by decide +kernel) (by decide +kernel)
theorem gm_883 : Cond.code yX10_trough cX10_trough 3 (some .int) ∈ gw := gw_mem 883 (by decide +kernel) (by decide +kernel)
theorem gm_884 : Cond.methodLink RL 57 yX10_give ∈ gw := gw_mem 884 (by decide +kernel) (by decide +kernel)
theorem gm_885 : Cond.instanceMethod yX10_give ∈ gw := gw_mem 885 (by decide +kernel) (by decide +kernel)
theorem gm_886 : Cond.selects RX10 yX10_give yX10_give ∈ gw := gw_mem 886 (by decide +kernel) (by decide +kernel)
theorem gm_887 : Cond.code yX10_give cX10_give 5 (some .int) ∈ gw := gw_mem 887 (by decide +kernel) (by decide +kernel)
theorem gm_893 : Cond.methodLink RL 62 yX10_fold ∈ gw := gw_mem 893 (by decide +kernel) (by decide +kernel)
theorem gm_894 : Cond.instanceMethod yX10_fold ∈ gw := gw_mem 894 (by decide +kernel) (by decide +kernel)
theorem gm_895 : Cond.selects RX10 yX10_fold yX10_fold ∈ gw := gw_mem 895 (by decide +kernel) (by decide +kernel)
theorem gm_896 : Cond.code yX10_fold cX10_fold 3 (some .int) ∈ gw := gw_mem 896 (by decide +kernel) (by decide +kernel)
theorem gm_897 : Cond.methodLink RL 66 yX10_put ∈ gw := gw_mem 897 (by decide +kernel) (by decide +kernel)
theorem gm_898 : Cond.instanceMethod yX10_put ∈ gw := gw_mem 898 (by decide +kernel) (by decide +kernel)
theorem gm_899 : Cond.selects RX10 yX10_put yX10_put ∈ gw := gw_mem 899 (by decide +kernel) (by decide +kernel)
theorem gm_900 : Cond.code yX10_put cX10_put 5 (some .int) ∈ gw := gw_mem 900 (by decide +kernel) (by decide +kernel)
theorem gm_901 : Cond.methodLink RL 70 yX10_year ∈ gw := gw_mem 901 (by decide +kernel) (by decide +kernel)
theorem gm_902 : Cond.instanceMethod yX10_year ∈ gw := gw_mem 902 (by decide +kernel) (by decide +kernel)
theorem gm_903 : Cond.selects RX10 yX10_year yX10_year ∈ gw := gw_mem 903 (by decide +kernel) (by decide +kernel)
theorem gm_904 : Cond.code yX10_year cX10_year 3 (some .int) ∈ gw := gw_mem 904 (by decide +kernel) (by decide +kernel)
theorem gm_939 : Cond.methodLink RL 74 yX10_undo ∈ gw := gw_mem 939 (by decide +kernel) (by decide +kernel)
theorem gm_940 : Cond.instanceMethod yX10_undo ∈ gw := gw_mem 940 (by decide +kernel) (by decide +kernel)
theorem gm_941 : Cond.selects RX10 yX10_undo yX10_undo ∈ gw := gw_mem 941 (by decide +kernel) (by decide +kernel)
theorem gm_942 : Cond.code yX10_undo cX10_undo 1 (some .boolean) ∈ gw := gw_mem 942 (by decide +kernel) (by decide +kernel)
theorem gm_947 : Cond.methodLink RL 79 yX10_redo ∈ gw := gw_mem 947 (by decide +kernel) (by decide +kernel)
theorem gm_948 : Cond.instanceMethod yX10_redo ∈ gw := gw_mem 948 (by decide +kernel) (by decide +kernel)
theorem gm_949 : Cond.selects RX10 yX10_redo yX10_redo ∈ gw := gw_mem 949 (by decide +kernel) (by decide +kernel)
theorem gm_950 : Cond.code yX10_redo cX10_redo 1 (some .boolean) ∈ gw := gw_mem 950 (by decide +kernel) (by decide +kernel)
theorem gm_955 : Cond.methodLink RL 83 yX10_hungry ∈ gw := gw_mem 955 (by decide +kernel) (by decide +kernel)
theorem gm_956 : Cond.instanceMethod yX10_hungry ∈ gw := gw_mem 956 (by decide +kernel) (by decide +kernel)
theorem gm_957 : Cond.selects RX10 yX10_hungry yX10_hungry ∈ gw := gw_mem 957 (by decide +kernel) (by decide +kernel)
theorem gm_958 : Cond.code yX10_hungry cX10_hungry 4 (some .int) ∈ gw := gw_mem 958 (by decide +kernel) (by decide +kernel)
theorem gm_959 : Cond.methodLink RL 87 yX10_needs ∈ gw := gw_mem 959 (by decide +kernel) (by decide +kernel)
theorem gm_960 : Cond.instanceMethod yX10_needs ∈ gw := gw_mem 960 (by decide +kernel) (by decide +kernel)
theorem gm_961 : Cond.selects RX10 yX10_needs yX10_needs ∈ gw := gw_mem 961 (by decide +kernel) (by decide +kernel)
theorem gm_962 : Cond.code yX10_needs cX10_needs 5 (some .int) ∈ gw := gw_mem 962 (by decide +kernel) (by decide +kernel)
theorem gm_963 : Cond.methodLink RL 91 yX10_over ∈ gw := gw_mem 963 (by decide +kernel) (by decide +kernel)
theorem gm_964 : Cond.instanceMethod yX10_over ∈ gw := gw_mem 964 (by decide +kernel) (by decide +kernel)
theorem gm_965 : Cond.selects RX10 yX10_over yX10_over ∈ gw := gw_mem 965 (by decide +kernel) (by decide +kernel)
theorem gm_966 : Cond.code yX10_over cX10_over 2 (some .int) ∈ gw := gw_mem 966 (by decide +kernel) (by decide +kernel)
theorem gm_968 : Cond.methodLink RL 95 yX10_bitesIn ∈ gw := gw_mem 968 (by decide +kernel) (by decide +kernel)
theorem gm_969 : Cond.instanceMethod yX10_bitesIn ∈ gw := gw_mem 969 (by decide +kernel) (by decide +kernel)
theorem gm_970 : Cond.selects RX10 yX10_bitesIn yX10_bitesIn ∈ gw := gw_mem 970 (by decide +kernel) (by decide +kernel)
theorem gm_971 : Cond.code yX10_bitesIn cX10_bitesIn 2 (some .int) ∈ gw := gw_mem 971 (by decide +kernel) (by decide +kernel)
theorem gm_982 : Cond.methodLink RL 99 yX10_will ∈ gw := gw_mem 982 (by decide +kernel) (by decide +kernel)
theorem gm_983 : Cond.instanceMethod yX10_will ∈ gw := gw_mem 983 (by decide +kernel) (by decide +kernel)
theorem gm_984 : Cond.selects RX10 yX10_will yX10_will ∈ gw := gw_mem 984 (by decide +kernel) (by decide +kernel)
theorem gm_985 : Cond.code yX10_will cX10_will 3 (some .int) ∈ gw := gw_mem 985 (by decide +kernel) (by decide +kernel)
theorem gm_987 : Cond.methodLink RL 103 yX10_doom ∈ gw := gw_mem 987 (by decide +kernel) (by decide +kernel)
theorem gm_988 : Cond.instanceMethod yX10_doom ∈ gw := gw_mem 988 (by decide +kernel) (by decide +kernel)
theorem gm_989 : Cond.selects RX10 yX10_doom yX10_doom ∈ gw := gw_mem 989 (by decide +kernel) (by decide +kernel)
theorem gm_990 : Cond.code yX10_doom cX10_doom 3 (some .int) ∈ gw := gw_mem 990 (by decide +kernel) (by decide +kernel)
theorem gm_1003 : Cond.methodLink RL 107 yX10_bitten ∈ gw := gw_mem 1003 (by decide +kernel) (by decide +kernel)
theorem gm_1004 : Cond.instanceMethod yX10_bitten ∈ gw := gw_mem 1004 (by decide +kernel) (by decide +kernel)
theorem gm_1005 : Cond.selects RX10 yX10_bitten yX10_bitten ∈ gw := gw_mem 1005 (by decide +kernel) (by decide +kernel)
theorem gm_1006 : Cond.code yX10_bitten cX10_bitten 1 (some .int) ∈ gw := gw_mem 1006 (by decide +kernel) (by decide +kernel)
theorem gm_1007 : Cond.methodLink RL 111 yX10_gone ∈ gw := gw_mem 1007 (by decide +kernel) (by decide +kernel)
theorem gm_1008 : Cond.instanceMethod yX10_gone ∈ gw := gw_mem 1008 (by decide +kernel) (by decide +kernel)
theorem gm_1009 : Cond.selects RX10 yX10_gone yX10_gone ∈ gw := gw_mem 1009 (by decide +kernel) (by decide +kernel)
theorem gm_1010 : Cond.code yX10_gone cX10_gone 1 (some .int) ∈ gw := gw_mem 1010 (by decide +kernel) (by decide +kernel)
theorem gm_1012 : Cond.methodLink RL 115 yX10_land ∈ gw := gw_mem 1012 (by decide +kernel) (by decide +kernel)
theorem gm_1013 : Cond.instanceMethod yX10_land ∈ gw := gw_mem 1013 (by decide +kernel) (by decide +kernel)
theorem gm_1014 : Cond.selects RX10 yX10_land yX10_land ∈ gw := gw_mem 1014 (by decide +kernel) (by decide +kernel)
theorem gm_1015 : Cond.code yX10_land cX10_land 2 (some .int) ∈ gw := gw_mem 1015 (by decide +kernel) (by decide +kernel)
theorem gm_1020 : Cond.methodLink RL 119 yX10_ration ∈ gw := gw_mem 1020 (by decide +kernel) (by decide +kernel)
theorem gm_1021 : Cond.instanceMethod yX10_ration ∈ gw := gw_mem 1021 (by decide +kernel) (by decide +kernel)
theorem gm_1022 : Cond.selects RX10 yX10_ration yX10_ration ∈ gw := gw_mem 1022 (by decide +kernel) (by decide +kernel)
theorem gm_1023 : Cond.code yX10_ration cX10_ration 3 (some .int) ∈ gw := gw_mem 1023 (by decide +kernel) (by decide +kernel)
theorem gm_1060 : Cond.methodLink RL 123 yX10_keep ∈ gw := gw_mem 1060 (by decide +kernel) (by decide +kernel)
theorem gm_1061 : Cond.instanceMethod yX10_keep ∈ gw := gw_mem 1061 (by decide +kernel) (by decide +kernel)
theorem gm_1062 : Cond.selects RX10 yX10_keep yX10_keep ∈ gw := gw_mem 1062 (by decide +kernel) (by decide +kernel)
theorem gm_1063 : Cond.code yX10_keep cX10_keep 3 (some .int) ∈ gw := gw_mem 1063 (by decide +kernel) (by decide +kernel)
theorem gm_1077 : Cond.methodLink RL 127 yX10_folds ∈ gw := gw_mem 1077 (by decide +kernel) (by decide +kernel)
theorem gm_1078 : Cond.instanceMethod yX10_folds ∈ gw := gw_mem 1078 (by decide +kernel) (by decide +kernel)
theorem gm_1079 : Cond.selects RX10 yX10_folds yX10_folds ∈ gw := gw_mem 1079 (by decide +kernel) (by decide +kernel)
theorem gm_1080 : Cond.code yX10_folds cX10_folds 4 (some .int) ∈ gw := gw_mem 1080 (by decide +kernel) (by decide +kernel)
theorem gm_1086 : Cond.methodLink RL 131 yX10_drawers ∈ gw := gw_mem 1086 (by decide +kernel) (by decide +kernel)
theorem gm_1087 : Cond.instanceMethod yX10_drawers ∈ gw := gw_mem 1087 (by decide +kernel) (by decide +kernel)
theorem gm_1088 : Cond.selects RX10 yX10_drawers yX10_drawers ∈ gw := gw_mem 1088 (by decide +kernel) (by decide +kernel)
theorem gm_1089 : Cond.code yX10_drawers cX10_drawers 2 (some .int) ∈ gw := gw_mem 1089 (by decide +kernel) (by decide +kernel)
theorem gm_1106 : Cond.methodLink RL 135 yX10_least ∈ gw := gw_mem 1106 (by decide +kernel) (by decide +kernel)
theorem gm_1107 : Cond.instanceMethod yX10_least ∈ gw := gw_mem 1107 (by decide +kernel) (by decide +kernel)
theorem gm_1108 : Cond.selects RX10 yX10_least yX10_least ∈ gw := gw_mem 1108 (by decide +kernel) (by decide +kernel)
theorem gm_1109 : Cond.code yX10_least cX10_least 2 (some .int) ∈ gw := gw_mem 1109 (by decide +kernel) (by decide +kernel)
theorem gm_1111 : Cond.methodLink RL 139 yX10_bites ∈ gw := gw_mem 1111 (by decide +kernel) (by decide +kernel)
theorem gm_1112 : Cond.instanceMethod yX10_bites ∈ gw := gw_mem 1112 (by decide +kernel) (by decide +kernel)
theorem gm_1113 : Cond.selects RX10 yX10_bites yX10_bites ∈ gw := gw_mem 1113 (by decide +kernel) (by decide +kernel)
theorem gm_1114 : Cond.code yX10_bites cX10_bites 3 (some .int) ∈ gw := gw_mem 1114 (by decide +kernel) (by decide +kernel)
theorem gm_1116 : Cond.methodLink RL 143 yX10_odds ∈ gw := gw_mem 1116 (by decide +kernel) (by decide +kernel)
theorem gm_1117 : Cond.instanceMethod yX10_odds ∈ gw := gw_mem 1117 (by decide +kernel) (by decide +kernel)
theorem gm_1118 : Cond.selects RX10 yX10_odds yX10_odds ∈ gw := gw_mem 1118 (by decide +kernel) (by decide +kernel)
theorem gm_1119 : Cond.code yX10_odds cX10_odds 7 (some .int) ∈ gw := gw_mem 1119 (by decide +kernel) (by decide +kernel)
theorem gm_1129 : Cond.methodLink RL 147 yX10_lies ∈ gw := gw_mem 1129 (by decide +kernel) (by decide +kernel)
theorem gm_1130 : Cond.instanceMethod yX10_lies ∈ gw := gw_mem 1130 (by decide +kernel) (by decide +kernel)
theorem gm_1131 : Cond.selects RX10 yX10_lies yX10_lies ∈ gw := gw_mem 1131 (by decide +kernel) (by decide +kernel)
theorem gm_1132 : Cond.code yX10_lies cX10_lies 2 (some .int) ∈ gw := gw_mem 1132 (by decide +kernel) (by decide +kernel)
theorem gm_1133 : Cond.methodLink RL 151 yX10_trial ∈ gw := gw_mem 1133 (by decide +kernel) (by decide +kernel)
theorem gm_1134 : Cond.instanceMethod yX10_trial ∈ gw := gw_mem 1134 (by decide +kernel) (by decide +kernel)
theorem gm_1135 : Cond.selects RX10 yX10_trial yX10_trial ∈ gw := gw_mem 1135 (by decide +kernel) (by decide +kernel)
theorem gm_1136 : Cond.code yX10_trial cX10_trial 6 (some .int) ∈ gw := gw_mem 1136 (by decide +kernel) (by decide +kernel)
theorem gm_1147 : Cond.methodLink RL 156 yX10_untell ∈ gw := gw_mem 1147 (by decide +kernel) (by decide +kernel)
theorem gm_1148 : Cond.instanceMethod yX10_untell ∈ gw := gw_mem 1148 (by decide +kernel) (by decide +kernel)
theorem gm_1149 : Cond.selects RX10 yX10_untell yX10_untell ∈ gw := gw_mem 1149 (by decide +kernel) (by decide +kernel)
theorem gm_1150 : Cond.code yX10_untell cX10_untell 2 (some .boolean) ∈ gw := gw_mem 1150 (by decide +kernel) (by decide +kernel)
theorem gm_1155 : Cond.methodLink RL 161 yX10_later ∈ gw := gw_mem 1155 (by decide +kernel) (by decide +kernel)
theorem gm_1156 : Cond.instanceMethod yX10_later ∈ gw := gw_mem 1156 (by decide +kernel) (by decide +kernel)
theorem gm_1157 : Cond.selects RX10 yX10_later yX10_later ∈ gw := gw_mem 1157 (by decide +kernel) (by decide +kernel)
theorem gm_1158 : Cond.code yX10_later cX10_later 2 (some .int) ∈ gw := gw_mem 1158 (by decide +kernel) (by decide +kernel)
theorem gm_1160 : Cond.methodLink RL 165 yX10_fit ∈ gw := gw_mem 1160 (by decide +kernel) (by decide +kernel)
theorem gm_1161 : Cond.instanceMethod yX10_fit ∈ gw := gw_mem 1161 (by decide +kernel) (by decide +kernel)
theorem gm_1162 : Cond.selects RX10 yX10_fit yX10_fit ∈ gw := gw_mem 1162 (by decide +kernel) (by decide +kernel)
theorem gm_1163 : Cond.code yX10_fit cX10_fit 2 (some .int) ∈ gw := gw_mem 1163 (by decide +kernel) (by decide +kernel)
theorem gm_1177 : Cond.methodLink RL 169 yX10_sure ∈ gw := gw_mem 1177 (by decide +kernel) (by decide +kernel)
theorem gm_1178 : Cond.instanceMethod yX10_sure ∈ gw := gw_mem 1178 (by decide +kernel) (by decide +kernel)
theorem gm_1179 : Cond.selects RX10 yX10_sure yX10_sure ∈ gw := gw_mem 1179 (by decide +kernel) (by decide +kernel)
theorem gm_1180 : Cond.code yX10_sure cX10_sure 3 (some .int) ∈ gw := gw_mem 1180 (by decide +kernel) (by decide +kernel)
theorem gm_1186 : Cond.methodLink RL 173 yX10_ask ∈ gw := gw_mem 1186 (by decide +kernel) (by decide +kernel)
theorem gm_1187 : Cond.instanceMethod yX10_ask ∈ gw := gw_mem 1187 (by decide +kernel) (by decide +kernel)
theorem gm_1188 : Cond.selects RX10 yX10_ask yX10_ask ∈ gw := gw_mem 1188 (by decide +kernel) (by decide +kernel)
theorem gm_1189 : Cond.code yX10_ask cX10_ask 4 (some .int) ∈ gw := gw_mem 1189 (by decide +kernel) (by decide +kernel)
theorem gm_1199 : Cond.methodLink RL 177 yX10_image ∈ gw := gw_mem 1199 (by decide +kernel) (by decide +kernel)
theorem gm_1200 : Cond.instanceMethod yX10_image ∈ gw := gw_mem 1200 (by decide +kernel) (by decide +kernel)
theorem gm_1201 : Cond.selects RX10 yX10_image yX10_image ∈ gw := gw_mem 1201 (by decide +kernel) (by decide +kernel)
theorem gm_1202 : Cond.code yX10_image cX10_image 2 (some .int) ∈ gw := gw_mem 1202 (by decide +kernel) (by decide +kernel)
theorem gm_1204 : Cond.methodLink RL 181 yX10_back ∈ gw := gw_mem 1204 (by decide +kernel) (by decide +kernel)
theorem gm_1205 : Cond.instanceMethod yX10_back ∈ gw := gw_mem 1205 (by decide +kernel) (by decide +kernel)
theorem gm_1206 : Cond.selects RX10 yX10_back yX10_back ∈ gw := gw_mem 1206 (by decide +kernel) (by decide +kernel)
theorem gm_1207 : Cond.code yX10_back cX10_back 2 (some .int) ∈ gw := gw_mem 1207 (by decide +kernel) (by decide +kernel)
theorem gm_1208 : Cond.methodLink RL 185 yX10_about ∈ gw := gw_mem 1208 (by decide +kernel) (by decide +kernel)
theorem gm_1209 : Cond.instanceMethod yX10_about ∈ gw := gw_mem 1209 (by decide +kernel) (by decide +kernel)
theorem gm_1210 : Cond.selects RX10 yX10_about yX10_about ∈ gw := gw_mem 1210 (by decide +kernel) (by decide +kernel)
theorem gm_1211 : Cond.code yX10_about cX10_about 3 (some .int) ∈ gw := gw_mem 1211 (by decide +kernel) (by decide +kernel)
theorem gm_1438 : Cond.methodLink RL 27 yX11_house ∈ gw := gw_mem 1438 (by decide +kernel) (by decide +kernel)
theorem gm_1439 : Cond.instanceMethod yX11_house ∈ gw := gw_mem 1439 (by decide +kernel) (by decide +kernel)
theorem gm_1440 : Cond.selects RX11 yX11_house yX11_house ∈ gw := gw_mem 1440 (by decide +kernel) (by decide +kernel)
theorem gm_1441 : Cond.code yX11_house cX11_house 2 (some .int) ∈ gw := gw_mem 1441 (by decide +kernel) (by decide +kernel)
theorem gm_1604 : Cond.methodLink RL 31 yX11_fault ∈ gw := gw_mem 1604 (by decide +kernel) (by decide +kernel)
theorem gm_1605 : Cond.instanceMethod yX11_fault ∈ gw := gw_mem 1605 (by decide +kernel) (by decide +kernel)
theorem gm_1606 : Cond.selects RX11 yX11_fault yX11_fault ∈ gw := gw_mem 1606 (by decide +kernel) (by decide +kernel)
theorem gm_1607 : Cond.code yX11_fault cX11_fault 2 (some .int) ∈ gw := gw_mem 1607 (by decide +kernel) (by decide +kernel)
theorem gm_1608 : Cond.methodLink RL 35 yX11_store ∈ gw := gw_mem 1608 (by decide +kernel) (by decide +kernel)
theorem gm_1609 : Cond.instanceMethod yX11_store ∈ gw := gw_mem 1609 (by decide +kernel) (by decide +kernel)
theorem gm_1610 : Cond.selects RX11 yX11_store yX11_store ∈ gw := gw_mem 1610 (by decide +kernel) (by decide +kernel)
theorem gm_1611 : Cond.code yX11_store cX11_store 2 (some .int) ∈ gw := gw_mem 1611 (by decide +kernel) (by decide +kernel)
theorem gm_1619 : Cond.methodLink RL 40 yX11_map ∈ gw := gw_mem 1619 (by decide +kernel) (by decide +kernel)
theorem gm_1620 : Cond.instanceMethod yX11_map ∈ gw := gw_mem 1620 (by decide +kernel) (by decide +kernel)
theorem gm_1621 : Cond.selects RX11 yX11_map yX11_map ∈ gw := gw_mem 1621 (by decide +kernel) (by decide +kernel)
theorem gm_1622 : Cond.code yX11_map cX11_map 3 (some .int) ∈ gw := gw_mem 1622 (by decide +kernel) (by decide +kernel)
theorem gm_1665 : Cond.methodLink RL 44 yX11_place ∈ gw := gw_mem 1665 (by decide +kernel) (by decide +kernel)
theorem gm_1666 : Cond.instanceMethod yX11_place ∈ gw := gw_mem 1666 (by decide +kernel) (by decide +kernel)
theorem gm_1667 : Cond.selects RX11 yX11_place yX11_place ∈ gw := gw_mem 1667 (by decide +kernel) (by decide +kernel)
theorem gm_1668 : Cond.code yX11_place cX11_place 3 (some .int) ∈ gw := gw_mem 1668 (by decide +kernel) (by decide +kernel)
theorem gm_1673 : Cond.methodLink RL 48 yX11_taste ∈ gw := gw_mem 1673 (by decide +kernel) (by decide +kernel)
theorem gm_1674 : Cond.instanceMethod yX11_taste ∈ gw := gw_mem 1674 (by decide +kernel) (by decide +kernel)
theorem gm_1675 : Cond.selects RX11 yX11_taste yX11_taste ∈ gw := gw_mem 1675 (by decide +kernel) (by decide +kernel)
theorem gm_1676 : Cond.code yX11_taste cX11_taste 3 (some .int) ∈ gw := gw_mem 1676 (by decide +kernel) (by decide +kernel)
theorem gm_1682 : Cond.methodLink RL 52 yX11_likes ∈ gw := gw_mem 1682 (by decide +kernel) (by decide +kernel)
theorem gm_1683 : Cond.instanceMethod yX11_likes ∈ gw := gw_mem 1683 (by decide +kernel) (by decide +kernel)
theorem gm_1684 : Cond.selects RX11 yX11_likes yX11_likes ∈ gw := gw_mem 1684 (by decide +kernel) (by decide +kernel)
theorem gm_1685 : Cond.code yX11_likes cX11_likes 3 (some .int) ∈ gw := gw_mem 1685 (by decide +kernel) (by decide +kernel)
theorem gm_1686 : Cond.methodLink RL 56 yX11_trough ∈ gw := gw_mem 1686 (by decide +kernel) (by decide +kernel)
theorem gm_1687 : Cond.instanceMethod yX11_trough ∈ gw := gw_mem 1687 (by decide +kernel) (by decide +kernel)
theorem gm_1688 : Cond.selects RX11 yX11_trough yX11_trough ∈ gw := gw_mem 1688 (by decide +kernel) (by decide +kernel)
theorem gm_1689 : Cond.code yX11_trough cX11_trough 3 (some .int) ∈ gw := gw_mem 1689 (by decide +kernel) (by decide +kernel)
theorem gm_1690 : Cond.methodLink RL 61 yX11_give ∈ gw := gw_mem 1690 (by decide +kernel) (by decide +kernel)
theorem gm_1691 : Cond.instanceMethod yX11_give ∈ gw := gw_mem 1691 (by decide +kernel) (by decide +kernel)
theorem gm_1692 : Cond.selects RX11 yX11_give yX11_give ∈ gw := gw_mem 1692 (by decide +kernel) (by decide +kernel)
theorem gm_1693 : Cond.code yX11_give cX11_give 4 (some .int) ∈ gw := gw_mem 1693 (by decide +kernel) (by decide +kernel)
theorem gm_1698 : Cond.methodLink RL 65 yX11_fold ∈ gw := gw_mem 1698 (by decide +kernel) (by decide +kernel)
theorem gm_1699 : Cond.instanceMethod yX11_fold ∈ gw := gw_mem 1699 (by decide +kernel) (by decide +kernel)
theorem gm_1700 : Cond.selects RX11 yX11_fold yX11_fold ∈ gw := gw_mem 1700 (by decide +kernel) (by decide +kernel)
theorem gm_1701 : Cond.code yX11_fold cX11_fold 2 (some .int) ∈ gw := gw_mem 1701 (by decide +kernel) (by decide +kernel)
theorem gm_1702 : Cond.methodLink RL 69 yX11_put ∈ gw := gw_mem 1702 (by decide +kernel) (by decide +kernel)
theorem gm_1703 : Cond.instanceMethod yX11_put ∈ gw := gw_mem 1703 (by decide +kernel) (by decide +kernel)
theorem gm_1704 : Cond.selects RX11 yX11_put yX11_put ∈ gw := gw_mem 1704 (by decide +kernel) (by decide +kernel)
theorem gm_1705 : Cond.code yX11_put cX11_put 4 (some .int) ∈ gw := gw_mem 1705 (by decide +kernel) (by decide +kernel)
theorem gm_1706 : Cond.methodLink RL 73 yX11_year ∈ gw := gw_mem 1706 (by decide +kernel) (by decide +kernel)
theorem gm_1707 : Cond.instanceMethod yX11_year ∈ gw := gw_mem 1707 (by decide +kernel) (by decide +kernel)
theorem gm_1708 : Cond.selects RX11 yX11_year yX11_year ∈ gw := gw_mem 1708 (by decide +kernel) (by decide +kernel)
theorem gm_1709 : Cond.code yX11_year cX11_year 1 (some .int) ∈ gw := gw_mem 1709 (by decide +kernel) (by decide +kernel)
theorem gm_1737 : Cond.methodLink RL 78 yX11_undo ∈ gw := gw_mem 1737 (by decide +kernel) (by decide +kernel)
theorem gm_1738 : Cond.instanceMethod yX11_undo ∈ gw := gw_mem 1738 (by decide +kernel) (by decide +kernel)
theorem gm_1739 : Cond.selects RX11 yX11_undo yX11_undo ∈ gw := gw_mem 1739 (by decide +kernel) (by decide +kernel)
theorem gm_1740 : Cond.code yX11_undo cX11_undo 1 (some .boolean) ∈ gw := gw_mem 1740 (by decide +kernel) (by decide +kernel)
theorem gm_1745 : Cond.methodLink RL 82 yX11_redo ∈ gw := gw_mem 1745 (by decide +kernel) (by decide +kernel)
theorem gm_1746 : Cond.instanceMethod yX11_redo ∈ gw := gw_mem 1746 (by decide +kernel) (by decide +kernel)
theorem gm_1747 : Cond.selects RX11 yX11_redo yX11_redo ∈ gw := gw_mem 1747 (by decide +kernel) (by decide +kernel)
theorem gm_1748 : Cond.code yX11_redo cX11_redo 1 (some .boolean) ∈ gw := gw_mem 1748 (by decide +kernel) (by decide +kernel)
theorem gm_1749 : Cond.methodLink RL 86 yX11_hungry ∈ gw := gw_mem 1749 (by decide +kernel) (by decide +kernel)
theorem gm_1750 : Cond.instanceMethod yX11_hungry ∈ gw := gw_mem 1750 (by decide +kernel) (by decide +kernel)
theorem gm_1751 : Cond.selects RX11 yX11_hungry yX11_hungry ∈ gw := gw_mem 1751 (by decide +kernel) (by decide +kernel)
theorem gm_1752 : Cond.code yX11_hungry cX11_hungry 3 (some .int) ∈ gw := gw_mem 1752 (by decide +kernel) (by decide +kernel)
theorem gm_1753 : Cond.methodLink RL 90 yX11_needs ∈ gw := gw_mem 1753 (by decide +kernel) (by decide +kernel)
theorem gm_1754 : Cond.instanceMethod yX11_needs ∈ gw := gw_mem 1754 (by decide +kernel) (by decide +kernel)
theorem gm_1755 : Cond.selects RX11 yX11_needs yX11_needs ∈ gw := gw_mem 1755 (by decide +kernel) (by decide +kernel)
theorem gm_1756 : Cond.code yX11_needs cX11_needs 5 (some .int) ∈ gw := gw_mem 1756 (by decide +kernel) (by decide +kernel)
theorem gm_1757 : Cond.methodLink RL 94 yX11_over ∈ gw := gw_mem 1757 (by decide +kernel) (by decide +kernel)
theorem gm_1758 : Cond.instanceMethod yX11_over ∈ gw := gw_mem 1758 (by decide +kernel) (by decide +kernel)
theorem gm_1759 : Cond.selects RX11 yX11_over yX11_over ∈ gw := gw_mem 1759 (by decide +kernel) (by decide +kernel)
theorem gm_1760 : Cond.code yX11_over cX11_over 3 (some .int) ∈ gw := gw_mem 1760 (by decide +kernel) (by decide +kernel)
theorem gm_1761 : Cond.methodLink RL 98 yX11_bitesIn ∈ gw := gw_mem 1761 (by decide +kernel) (by decide +kernel)
theorem gm_1762 : Cond.instanceMethod yX11_bitesIn ∈ gw := gw_mem 1762 (by decide +kernel) (by decide +kernel)
theorem gm_1763 : Cond.selects RX11 yX11_bitesIn yX11_bitesIn ∈ gw := gw_mem 1763 (by decide +kernel) (by decide +kernel)
theorem gm_1764 : Cond.code yX11_bitesIn cX11_bitesIn 4 (some .int) ∈ gw := gw_mem 1764 (by decide +kernel) (by decide +kernel)
theorem gm_1769 : Cond.methodLink RL 102 yX11_will ∈ gw := gw_mem 1769 (by decide +kernel) (by decide +kernel)
theorem gm_1770 : Cond.instanceMethod yX11_will ∈ gw := gw_mem 1770 (by decide +kernel) (by decide +kernel)
theorem gm_1771 : Cond.selects RX11 yX11_will yX11_will ∈ gw := gw_mem 1771 (by decide +kernel) (by decide +kernel)
theorem gm_1772 : Cond.code yX11_will cX11_will 4 (some .int) ∈ gw := gw_mem 1772 (by decide +kernel) (by decide +kernel)
theorem gm_1773 : Cond.methodLink RL 106 yX11_doom ∈ gw := gw_mem 1773 (by decide +kernel) (by decide +kernel)
theorem gm_1774 : Cond.instanceMethod yX11_doom ∈ gw := gw_mem 1774 (by decide +kernel) (by decide +kernel)
theorem gm_1775 : Cond.selects RX11 yX11_doom yX11_doom ∈ gw := gw_mem 1775 (by decide +kernel) (by decide +kernel)
theorem gm_1776 : Cond.code yX11_doom cX11_doom 5 (some .int) ∈ gw := gw_mem 1776 (by decide +kernel) (by decide +kernel)
theorem gm_1781 : Cond.methodLink RL 110 yX11_bitten ∈ gw := gw_mem 1781 (by decide +kernel) (by decide +kernel)
theorem gm_1782 : Cond.instanceMethod yX11_bitten ∈ gw := gw_mem 1782 (by decide +kernel) (by decide +kernel)
theorem gm_1783 : Cond.selects RX11 yX11_bitten yX11_bitten ∈ gw := gw_mem 1783 (by decide +kernel) (by decide +kernel)
theorem gm_1784 : Cond.code yX11_bitten cX11_bitten 2 (some .int) ∈ gw := gw_mem 1784 (by decide +kernel) (by decide +kernel)
theorem gm_1785 : Cond.methodLink RL 114 yX11_gone ∈ gw := gw_mem 1785 (by decide +kernel) (by decide +kernel)
theorem gm_1786 : Cond.instanceMethod yX11_gone ∈ gw := gw_mem 1786 (by decide +kernel) (by decide +kernel)
theorem gm_1787 : Cond.selects RX11 yX11_gone yX11_gone ∈ gw := gw_mem 1787 (by decide +kernel) (by decide +kernel)
theorem gm_1788 : Cond.code yX11_gone cX11_gone 3 (some .int) ∈ gw := gw_mem 1788 (by decide +kernel) (by decide +kernel)
theorem gm_1789 : Cond.methodLink RL 118 yX11_land ∈ gw := gw_mem 1789 (by decide +kernel) (by decide +kernel)
theorem gm_1790 : Cond.instanceMethod yX11_land ∈ gw := gw_mem 1790 (by decide +kernel) (by decide +kernel)
theorem gm_1791 : Cond.selects RX11 yX11_land yX11_land ∈ gw := gw_mem 1791 (by decide +kernel) (by decide +kernel)
theorem gm_1792 : Cond.code yX11_land cX11_land 3 (some .int) ∈ gw := gw_mem 1792 (by decide +kernel) (by decide +kernel)
theorem gm_1797 : Cond.methodLink RL 150 yX11_lies ∈ gw := gw_mem 1797 (by decide +kernel) (by decide +kernel)
theorem gm_1798 : Cond.instanceMethod yX11_lies ∈ gw := gw_mem 1798 (by decide +kernel) (by decide +kernel)
theorem gm_1799 : Cond.selects RX11 yX11_lies yX11_lies ∈ gw := gw_mem 1799 (by decide +kernel) (by decide +kernel)
theorem gm_1800 : Cond.code yX11_lies cX11_lies 2 (some .int) ∈ gw := gw_mem 1800 (by decide +kernel) (by decide +kernel)
theorem gm_1801 : Cond.methodLink RL 122 yX11_ration ∈ gw := gw_mem 1801 (by decide +kernel) (by decide +kernel)
theorem gm_1802 : Cond.instanceMethod yX11_ration ∈ gw := gw_mem 1802 (by decide +kernel) (by decide +kernel)
theorem gm_1803 : Cond.selects RX11 yX11_ration yX11_ration ∈ gw := gw_mem 1803 (by decide +kernel) (by decide +kernel)
theorem gm_1804 : Cond.code yX11_ration cX11_ration 6 (some .int) ∈ gw := gw_mem 1804 (by decide +kernel) (by decide +kernel)
theorem gm_1821 : Cond.methodLink RL 126 yX11_keep ∈ gw := gw_mem 1821 (by decide +kernel) (by decide +kernel)
theorem gm_1822 : Cond.instanceMethod yX11_keep ∈ gw := gw_mem 1822 (by decide +kernel) (by decide +kernel)
theorem gm_1823 : Cond.selects RX11 yX11_keep yX11_keep ∈ gw := gw_mem 1823 (by decide +kernel) (by decide +kernel)
theorem gm_1824 : Cond.code yX11_keep cX11_keep 6 (some .int) ∈ gw := gw_mem 1824 (by decide +kernel) (by decide +kernel)
theorem gm_1825 : Cond.methodLink RL 130 yX11_folds ∈ gw := gw_mem 1825 (by decide +kernel) (by decide +kernel)
theorem gm_1826 : Cond.instanceMethod yX11_folds ∈ gw := gw_mem 1826 (by decide +kernel) (by decide +kernel)
theorem gm_1827 : Cond.selects RX11 yX11_folds yX11_folds ∈ gw := gw_mem 1827 (by decide +kernel) (by decide +kernel)
theorem gm_1828 : Cond.code yX11_folds cX11_folds 6 (some .int) ∈ gw := gw_mem 1828 (by decide +kernel) (by decide +kernel)
theorem gm_1829 : Cond.methodLink RL 134 yX11_drawers ∈ gw := gw_mem 1829 (by decide +kernel) (by decide +kernel)
theorem gm_1830 : Cond.instanceMethod yX11_drawers ∈ gw := gw_mem 1830 (by decide +kernel) (by decide +kernel)
theorem gm_1831 : Cond.selects RX11 yX11_drawers yX11_drawers ∈ gw := gw_mem 1831 (by decide +kernel) (by decide +kernel)
theorem gm_1832 : Cond.code yX11_drawers cX11_drawers 2 (some .int) ∈ gw := gw_mem 1832 (by decide +kernel) (by decide +kernel)
theorem gm_1845 : Cond.methodLink RL 138 yX11_least ∈ gw := gw_mem 1845 (by decide +kernel) (by decide +kernel)
theorem gm_1846 : Cond.instanceMethod yX11_least ∈ gw := gw_mem 1846 (by decide +kernel) (by decide +kernel)
theorem gm_1847 : Cond.selects RX11 yX11_least yX11_least ∈ gw := gw_mem 1847 (by decide +kernel) (by decide +kernel)
theorem gm_1848 : Cond.code yX11_least cX11_least 4 (some .int) ∈ gw := gw_mem 1848 (by decide +kernel) (by decide +kernel)
theorem gm_1849 : Cond.methodLink RL 142 yX11_bites ∈ gw := gw_mem 1849 (by decide +kernel) (by decide +kernel)
theorem gm_1850 : Cond.instanceMethod yX11_bites ∈ gw := gw_mem 1850 (by decide +kernel) (by decide +kernel)
theorem gm_1851 : Cond.selects RX11 yX11_bites yX11_bites ∈ gw := gw_mem 1851 (by decide +kernel) (by decide +kernel)
theorem gm_1852 : Cond.code yX11_bites cX11_bites 4 (some .int) ∈ gw := gw_mem 1852 (by decide +kernel) (by decide +kernel)
theorem gm_1853 : Cond.methodLink RL 146 yX11_odds ∈ gw := gw_mem 1853 (by decide +kernel) (by decide +kernel)
theorem gm_1854 : Cond.instanceMethod yX11_odds ∈ gw := gw_mem 1854 (by decide +kernel) (by decide +kernel)
theorem gm_1855 : Cond.selects RX11 yX11_odds yX11_odds ∈ gw := gw_mem 1855 (by decide +kernel) (by decide +kernel)
theorem gm_1856 : Cond.code yX11_odds cX11_odds 8 (some .int) ∈ gw := gw_mem 1856 (by decide +kernel) (by decide +kernel)
theorem gm_1860 : Cond.methodLink RL 155 yX11_trial ∈ gw := gw_mem 1860 (by decide +kernel) (by decide +kernel)
theorem gm_1861 : Cond.instanceMethod yX11_trial ∈ gw := gw_mem 1861 (by decide +kernel) (by decide +kernel)
theorem gm_1862 : Cond.selects RX11 yX11_trial yX11_trial ∈ gw := gw_mem 1862 (by decide +kernel) (by decide +kernel)
theorem gm_1863 : Cond.code yX11_trial cX11_trial 6 (some .int) ∈ gw := gw_mem 1863 (by decide +kernel) (by decide +kernel)
theorem gm_1864 : Cond.methodLink RL 160 yX11_untell ∈ gw := gw_mem 1864 (by decide +kernel) (by decide +kernel)
theorem gm_1865 : Cond.instanceMethod yX11_untell ∈ gw := gw_mem 1865 (by decide +kernel) (by decide +kernel)
theorem gm_1866 : Cond.selects RX11 yX11_untell yX11_untell ∈ gw := gw_mem 1866 (by decide +kernel) (by decide +kernel)
theorem gm_1867 : Cond.code yX11_untell cX11_untell 2 (some .boolean) ∈ gw := gw_mem 1867 (by decide +kernel) (by decide +kernel)
theorem gm_1868 : Cond.methodLink RL 164 yX11_later ∈ gw := gw_mem 1868 (by decide +kernel) (by decide +kernel)
theorem gm_1869 : Cond.instanceMethod yX11_later ∈ gw := gw_mem 1869 (by decide +kernel) (by decide +kernel)
theorem gm_1870 : Cond.selects RX11 yX11_later yX11_later ∈ gw := gw_mem 1870 (by decide +kernel) (by decide +kernel)
theorem gm_1871 : Cond.code yX11_later cX11_later 2 (some .int) ∈ gw := gw_mem 1871 (by decide +kernel) (by decide +kernel)
theorem gm_1873 : Cond.methodLink RL 168 yX11_fit ∈ gw := gw_mem 1873 (by decide +kernel) (by decide +kernel)
theorem gm_1888 : Cond.methodLink RL 172 yX11_sure ∈ gw := gw_mem 1888 (by decide +kernel) (by decide +kernel)
theorem gm_1889 : Cond.instanceMethod yX11_sure ∈ gw := gw_mem 1889 (by decide +kernel) (by decide +kernel)
theorem gm_1890 : Cond.selects RX11 yX11_sure yX11_sure ∈ gw := gw_mem 1890 (by decide +kernel) (by decide +kernel)
theorem gm_1891 : Cond.code yX11_sure cX11_sure 5 (some .int) ∈ gw := gw_mem 1891 (by decide +kernel) (by decide +kernel)
theorem gm_1892 : Cond.methodLink RL 176 yX11_ask ∈ gw := gw_mem 1892 (by decide +kernel) (by decide +kernel)
theorem gm_1893 : Cond.instanceMethod yX11_ask ∈ gw := gw_mem 1893 (by decide +kernel) (by decide +kernel)
theorem gm_1894 : Cond.selects RX11 yX11_ask yX11_ask ∈ gw := gw_mem 1894 (by decide +kernel) (by decide +kernel)
theorem gm_1895 : Cond.code yX11_ask cX11_ask 11 (some .int) ∈ gw := gw_mem 1895 (by decide +kernel) (by decide +kernel)
theorem gm_1901 : Cond.methodLink RL 180 yX11_image ∈ gw := gw_mem 1901 (by decide +kernel) (by decide +kernel)
theorem gm_1902 : Cond.instanceMethod yX11_image ∈ gw := gw_mem 1902 (by decide +kernel) (by decide +kernel)
theorem gm_1903 : Cond.selects RX11 yX11_image yX11_image ∈ gw := gw_mem 1903 (by decide +kernel) (by decide +kernel)
theorem gm_1904 : Cond.code yX11_image cX11_image 3 (some .int) ∈ gw := gw_mem 1904 (by decide +kernel) (by decide +kernel)
theorem gm_1905 : Cond.methodLink RL 184 yX11_back ∈ gw := gw_mem 1905 (by decide +kernel) (by decide +kernel)
theorem gm_1906 : Cond.instanceMethod yX11_back ∈ gw := gw_mem 1906 (by decide +kernel) (by decide +kernel)
theorem gm_1907 : Cond.selects RX11 yX11_back yX11_back ∈ gw := gw_mem 1907 (by decide +kernel) (by decide +kernel)
theorem gm_1908 : Cond.code yX11_back cX11_back 3 (some .int) ∈ gw := gw_mem 1908 (by decide +kernel) (by decide +kernel)
theorem gm_1909 : Cond.methodLink RL 188 yX11_about ∈ gw := gw_mem 1909 (by decide +kernel) (by decide +kernel)
theorem gm_1910 : Cond.instanceMethod yX11_about ∈ gw := gw_mem 1910 (by decide +kernel) (by decide +kernel)
theorem gm_1911 : Cond.selects RX11 yX11_about yX11_about ∈ gw := gw_mem 1911 (by decide +kernel) (by decide +kernel)
theorem gm_1912 : Cond.code yX11_about cX11_about 2 (some .int) ∈ gw := gw_mem 1912 (by decide +kernel) (by decide +kernel)
theorem gm_1913 : Cond.methodLink RL 17 yX11_feed ∈ gw := gw_mem 1913 (by decide +kernel) (by decide +kernel)
theorem gm_1914 : Cond.instanceMethod yX11_feed ∈ gw := gw_mem 1914 (by decide +kernel) (by decide +kernel)
theorem gm_1915 : Cond.selects RX11 yX11_feed yX11_feed ∈ gw := gw_mem 1915 (by decide +kernel) (by decide +kernel)
theorem gm_1916 : Cond.code yX11_feed cX11_feed 8 (some .int) ∈ gw := gw_mem 1916 (by decide +kernel) (by decide +kernel)
theorem gm_1917 : Cond.methodLink RL 22 yX11_end ∈ gw := gw_mem 1917 (by decide +kernel) (by decide +kernel)
theorem gm_1918 : Cond.instanceMethod yX11_end ∈ gw := gw_mem 1918 (by decide +kernel) (by decide +kernel)
theorem gm_1919 : Cond.selects RX11 yX11_end yX11_end ∈ gw := gw_mem 1919 (by decide +kernel) (by decide +kernel)
theorem gm_1920 : Cond.code yX11_end cX11_end 2 (some .int) ∈ gw := gw_mem 1920 (by decide +kernel) (by decide +kernel)
theorem dL_law_0 : decode cL_law 0 = .ok (.new 7, 3) := by decide +kernel
theorem dL_law_3 : decode cL_law 3 = .ok (.dup, 1) := by decide +kernel
theorem dL_law_4 : decode cL_law 4 = .ok (.invokespecial 9, 3) := by decide +kernel
theorem dL_law_7 : decode cL_law 7 = .ok (.astore_n 1, 1) := by decide +kernel
theorem dL_law_8 : decode cL_law 8 = .ok (.new 10, 3) := by decide +kernel
theorem dL_law_11 : decode cL_law 11 = .ok (.dup, 1) := by decide +kernel
theorem dL_law_12 : decode cL_law 12 = .ok (.invokespecial 12, 3) := by decide +kernel
theorem dL_law_15 : decode cL_law 15 = .ok (.astore_n 2, 1) := by decide +kernel
theorem dL_law_16 : decode cL_law 16 = .ok (.iconst 0, 1) := by decide +kernel
theorem dL_law_17 : decode cL_law 17 = .ok (.istore_n 3, 1) := by decide +kernel
theorem dL_law_18 : decode cL_law 18 = .ok (.iload_n 3, 1) := by decide +kernel
theorem dL_law_19 : decode cL_law 19 = .ok (.aload_n 0, 1) := by decide +kernel
theorem dL_law_20 : decode cL_law 20 = .ok (.arraylength, 1) := by decide +kernel
theorem dL_law_21 : decode cL_law 21 = .ok (.bipush 6, 2) := by decide +kernel
theorem dL_law_23 : decode cL_law 23 = .ok (.isub, 1) := by decide +kernel
theorem dL_law_24 : decode cL_law 24 = .ok (.if_icmp .gt 1350, 3) := by decide +kernel
theorem dL_law_27 : decode cL_law 27 = .ok (.aload_n 0, 1) := by decide +kernel
theorem dL_law_28 : decode cL_law 28 = .ok (.iload_n 3, 1) := by decide +kernel
theorem dL_law_29 : decode cL_law 29 = .ok (.iaload, 1) := by decide +kernel
theorem dL_law_30 : decode cL_law 30 = .ok (.bipush 63, 2) := by decide +kernel
theorem dL_law_32 : decode cL_law 32 = .ok (.iand, 1) := by decide +kernel
theorem dL_law_33 : decode cL_law 33 = .ok (.tableswitch 1335 0 41 #[183, 246, 269, 282, 305, 328, 361, 394, 427, 460, 493, 536, 559, 592, 605, 618, 631, 644, 677, 700, 723, 756, 779, 792, 805, 828, 861, 894, 927, 950, 963, 976, 1019, 1042, 1121, 1144, 1167, 1190, 1223, 1266, 1289, 1312], 183) := by decide +kernel
theorem dL_law_216 : decode cL_law 216 = .ok (.aload_n 1, 1) := by decide +kernel
theorem dL_law_217 : decode cL_law 217 = .ok (.aload_n 0, 1) := by decide +kernel
theorem dL_law_218 : decode cL_law 218 = .ok (.iload_n 3, 1) := by decide +kernel
theorem dL_law_219 : decode cL_law 219 = .ok (.iconst 1, 1) := by decide +kernel
theorem dL_law_220 : decode cL_law 220 = .ok (.iadd, 1) := by decide +kernel
theorem dL_law_221 : decode cL_law 221 = .ok (.iaload, 1) := by decide +kernel
theorem dL_law_222 : decode cL_law 222 = .ok (.aload_n 0, 1) := by decide +kernel
theorem dL_law_223 : decode cL_law 223 = .ok (.iload_n 3, 1) := by decide +kernel
theorem dL_law_224 : decode cL_law 224 = .ok (.iconst 2, 1) := by decide +kernel
theorem dL_law_225 : decode cL_law 225 = .ok (.iadd, 1) := by decide +kernel
theorem dL_law_226 : decode cL_law 226 = .ok (.iaload, 1) := by decide +kernel
theorem dL_law_227 : decode cL_law 227 = .ok (.aload_n 0, 1) := by decide +kernel
theorem dL_law_228 : decode cL_law 228 = .ok (.iload_n 3, 1) := by decide +kernel
theorem dL_law_229 : decode cL_law 229 = .ok (.iconst 3, 1) := by decide +kernel
theorem dL_law_230 : decode cL_law 230 = .ok (.iadd, 1) := by decide +kernel
theorem dL_law_231 : decode cL_law 231 = .ok (.iaload, 1) := by decide +kernel
theorem dL_law_232 : decode cL_law 232 = .ok (.aload_n 0, 1) := by decide +kernel
theorem dL_law_233 : decode cL_law 233 = .ok (.iload_n 3, 1) := by decide +kernel
theorem dL_law_234 : decode cL_law 234 = .ok (.iconst 4, 1) := by decide +kernel
theorem dL_law_235 : decode cL_law 235 = .ok (.iadd, 1) := by decide +kernel
theorem dL_law_236 : decode cL_law 236 = .ok (.iaload, 1) := by decide +kernel
theorem dL_law_237 : decode cL_law 237 = .ok (.aload_n 0, 1) := by decide +kernel
theorem dL_law_238 : decode cL_law 238 = .ok (.iload_n 3, 1) := by decide +kernel
theorem dL_law_239 : decode cL_law 239 = .ok (.iconst 5, 1) := by decide +kernel
theorem dL_law_240 : decode cL_law 240 = .ok (.iadd, 1) := by decide +kernel
theorem dL_law_241 : decode cL_law 241 = .ok (.iaload, 1) := by decide +kernel
theorem dL_law_242 : decode cL_law 242 = .ok (.invokevirtual 13, 3) := by decide +kernel
theorem dL_law_245 : decode cL_law 245 = .ok (.pop, 1) := by decide +kernel
theorem dL_law_246 : decode cL_law 246 = .ok (.aload_n 2, 1) := by decide +kernel
theorem dL_law_247 : decode cL_law 247 = .ok (.aload_n 0, 1) := by decide +kernel
theorem dL_law_248 : decode cL_law 248 = .ok (.iload_n 3, 1) := by decide +kernel
theorem dL_law_249 : decode cL_law 249 = .ok (.iconst 1, 1) := by decide +kernel
theorem dL_law_250 : decode cL_law 250 = .ok (.iadd, 1) := by decide +kernel
theorem dL_law_251 : decode cL_law 251 = .ok (.iaload, 1) := by decide +kernel
theorem dL_law_252 : decode cL_law 252 = .ok (.aload_n 0, 1) := by decide +kernel
theorem dL_law_253 : decode cL_law 253 = .ok (.iload_n 3, 1) := by decide +kernel
theorem dL_law_254 : decode cL_law 254 = .ok (.iconst 2, 1) := by decide +kernel
theorem dL_law_255 : decode cL_law 255 = .ok (.iadd, 1) := by decide +kernel
theorem dL_law_256 : decode cL_law 256 = .ok (.iaload, 1) := by decide +kernel
theorem dL_law_257 : decode cL_law 257 = .ok (.aload_n 0, 1) := by decide +kernel
theorem dL_law_258 : decode cL_law 258 = .ok (.iload_n 3, 1) := by decide +kernel
theorem dL_law_259 : decode cL_law 259 = .ok (.iconst 3, 1) := by decide +kernel
theorem dL_law_260 : decode cL_law 260 = .ok (.iadd, 1) := by decide +kernel
theorem dL_law_261 : decode cL_law 261 = .ok (.iaload, 1) := by decide +kernel
theorem dL_law_262 : decode cL_law 262 = .ok (.aload_n 0, 1) := by decide +kernel
theorem dL_law_263 : decode cL_law 263 = .ok (.iload_n 3, 1) := by decide +kernel
theorem dL_law_264 : decode cL_law 264 = .ok (.iconst 4, 1) := by decide +kernel
theorem dL_law_265 : decode cL_law 265 = .ok (.iadd, 1) := by decide +kernel
theorem dL_law_266 : decode cL_law 266 = .ok (.iaload, 1) := by decide +kernel
theorem dL_law_267 : decode cL_law 267 = .ok (.aload_n 0, 1) := by decide +kernel
theorem dL_law_268 : decode cL_law 268 = .ok (.iload_n 3, 1) := by decide +kernel
theorem dL_law_269 : decode cL_law 269 = .ok (.iconst 5, 1) := by decide +kernel
theorem dL_law_270 : decode cL_law 270 = .ok (.iadd, 1) := by decide +kernel
theorem dL_law_271 : decode cL_law 271 = .ok (.iaload, 1) := by decide +kernel
theorem dL_law_272 : decode cL_law 272 = .ok (.invokevirtual 17, 3) := by decide +kernel
theorem dL_law_275 : decode cL_law 275 = .ok (.pop, 1) := by decide +kernel
theorem dL_law_276 : decode cL_law 276 = .ok (.goto 1092, 3) := by decide +kernel
theorem dL_law_279 : decode cL_law 279 = .ok (.aload_n 1, 1) := by decide +kernel
theorem dL_law_280 : decode cL_law 280 = .ok (.aload_n 0, 1) := by decide +kernel
theorem dL_law_281 : decode cL_law 281 = .ok (.iload_n 3, 1) := by decide +kernel
theorem dL_law_282 : decode cL_law 282 = .ok (.iconst 1, 1) := by decide +kernel
theorem dL_law_283 : decode cL_law 283 = .ok (.iadd, 1) := by decide +kernel
theorem dL_law_284 : decode cL_law 284 = .ok (.iaload, 1) := by decide +kernel
theorem dL_law_285 : decode cL_law 285 = .ok (.invokevirtual 18, 3) := by decide +kernel
theorem dL_law_288 : decode cL_law 288 = .ok (.pop, 1) := by decide +kernel
theorem dL_law_289 : decode cL_law 289 = .ok (.aload_n 2, 1) := by decide +kernel
theorem dL_law_290 : decode cL_law 290 = .ok (.aload_n 0, 1) := by decide +kernel
theorem dL_law_291 : decode cL_law 291 = .ok (.iload_n 3, 1) := by decide +kernel
theorem dL_law_292 : decode cL_law 292 = .ok (.iconst 1, 1) := by decide +kernel
theorem dL_law_293 : decode cL_law 293 = .ok (.iadd, 1) := by decide +kernel
theorem dL_law_294 : decode cL_law 294 = .ok (.iaload, 1) := by decide +kernel
theorem dL_law_295 : decode cL_law 295 = .ok (.invokevirtual 22, 3) := by decide +kernel
theorem dL_law_298 : decode cL_law 298 = .ok (.pop, 1) := by decide +kernel
theorem dL_law_299 : decode cL_law 299 = .ok (.goto 1069, 3) := by decide +kernel
theorem dL_law_302 : decode cL_law 302 = .ok (.aload_n 1, 1) := by decide +kernel
theorem dL_law_303 : decode cL_law 303 = .ok (.invokevirtual 23, 3) := by decide +kernel
theorem dL_law_306 : decode cL_law 306 = .ok (.pop, 1) := by decide +kernel
theorem dL_law_307 : decode cL_law 307 = .ok (.aload_n 2, 1) := by decide +kernel
theorem dL_law_308 : decode cL_law 308 = .ok (.invokevirtual 27, 3) := by decide +kernel
theorem dL_law_311 : decode cL_law 311 = .ok (.pop, 1) := by decide +kernel
theorem dL_law_312 : decode cL_law 312 = .ok (.goto 1056, 3) := by decide +kernel
theorem dL_law_315 : decode cL_law 315 = .ok (.aload_n 1, 1) := by decide +kernel
theorem dL_law_316 : decode cL_law 316 = .ok (.aload_n 0, 1) := by decide +kernel
theorem dL_law_317 : decode cL_law 317 = .ok (.iload_n 3, 1) := by decide +kernel
theorem dL_law_318 : decode cL_law 318 = .ok (.iconst 1, 1) := by decide +kernel
theorem dL_law_319 : decode cL_law 319 = .ok (.iadd, 1) := by decide +kernel
theorem dL_law_320 : decode cL_law 320 = .ok (.iaload, 1) := by decide +kernel
theorem dL_law_321 : decode cL_law 321 = .ok (.invokevirtual 28, 3) := by decide +kernel
theorem dL_law_324 : decode cL_law 324 = .ok (.pop, 1) := by decide +kernel
theorem dL_law_325 : decode cL_law 325 = .ok (.aload_n 2, 1) := by decide +kernel
theorem dL_law_326 : decode cL_law 326 = .ok (.aload_n 0, 1) := by decide +kernel
theorem dL_law_327 : decode cL_law 327 = .ok (.iload_n 3, 1) := by decide +kernel
theorem dL_law_328 : decode cL_law 328 = .ok (.iconst 1, 1) := by decide +kernel
theorem dL_law_329 : decode cL_law 329 = .ok (.iadd, 1) := by decide +kernel
theorem dL_law_330 : decode cL_law 330 = .ok (.iaload, 1) := by decide +kernel
theorem dL_law_331 : decode cL_law 331 = .ok (.invokevirtual 31, 3) := by decide +kernel
theorem dL_law_334 : decode cL_law 334 = .ok (.pop, 1) := by decide +kernel
theorem dL_law_335 : decode cL_law 335 = .ok (.goto 1033, 3) := by decide +kernel
theorem dL_law_338 : decode cL_law 338 = .ok (.aload_n 1, 1) := by decide +kernel
theorem dL_law_339 : decode cL_law 339 = .ok (.aload_n 0, 1) := by decide +kernel
theorem dL_law_340 : decode cL_law 340 = .ok (.iload_n 3, 1) := by decide +kernel
theorem dL_law_341 : decode cL_law 341 = .ok (.iconst 1, 1) := by decide +kernel
theorem dL_law_342 : decode cL_law 342 = .ok (.iadd, 1) := by decide +kernel
theorem dL_law_343 : decode cL_law 343 = .ok (.iaload, 1) := by decide +kernel
theorem dL_law_344 : decode cL_law 344 = .ok (.invokevirtual 32, 3) := by decide +kernel
theorem dL_law_347 : decode cL_law 347 = .ok (.pop, 1) := by decide +kernel
theorem dL_law_348 : decode cL_law 348 = .ok (.aload_n 2, 1) := by decide +kernel
theorem dL_law_349 : decode cL_law 349 = .ok (.aload_n 0, 1) := by decide +kernel
theorem dL_law_350 : decode cL_law 350 = .ok (.iload_n 3, 1) := by decide +kernel
theorem dL_law_351 : decode cL_law 351 = .ok (.iconst 1, 1) := by decide +kernel
theorem dL_law_352 : decode cL_law 352 = .ok (.iadd, 1) := by decide +kernel
theorem dL_law_353 : decode cL_law 353 = .ok (.iaload, 1) := by decide +kernel
theorem dL_law_354 : decode cL_law 354 = .ok (.invokevirtual 35, 3) := by decide +kernel
theorem dL_law_357 : decode cL_law 357 = .ok (.pop, 1) := by decide +kernel
theorem dL_law_358 : decode cL_law 358 = .ok (.goto 1010, 3) := by decide +kernel
theorem dL_law_361 : decode cL_law 361 = .ok (.aload_n 1, 1) := by decide +kernel
theorem dL_law_362 : decode cL_law 362 = .ok (.aload_n 0, 1) := by decide +kernel
theorem dL_law_363 : decode cL_law 363 = .ok (.iload_n 3, 1) := by decide +kernel
theorem dL_law_364 : decode cL_law 364 = .ok (.iconst 1, 1) := by decide +kernel
theorem dL_law_365 : decode cL_law 365 = .ok (.iadd, 1) := by decide +kernel
theorem dL_law_366 : decode cL_law 366 = .ok (.iaload, 1) := by decide +kernel
theorem dL_law_367 : decode cL_law 367 = .ok (.aload_n 0, 1) := by decide +kernel
theorem dL_law_368 : decode cL_law 368 = .ok (.iload_n 3, 1) := by decide +kernel
theorem dL_law_369 : decode cL_law 369 = .ok (.iconst 2, 1) := by decide +kernel
theorem dL_law_370 : decode cL_law 370 = .ok (.iadd, 1) := by decide +kernel
theorem dL_law_371 : decode cL_law 371 = .ok (.iaload, 1) := by decide +kernel
theorem dL_law_372 : decode cL_law 372 = .ok (.invokevirtual 36, 3) := by decide +kernel
theorem dL_law_375 : decode cL_law 375 = .ok (.pop, 1) := by decide +kernel
theorem dL_law_376 : decode cL_law 376 = .ok (.aload_n 2, 1) := by decide +kernel
theorem dL_law_377 : decode cL_law 377 = .ok (.aload_n 0, 1) := by decide +kernel
theorem dL_law_378 : decode cL_law 378 = .ok (.iload_n 3, 1) := by decide +kernel
theorem dL_law_379 : decode cL_law 379 = .ok (.iconst 1, 1) := by decide +kernel
theorem dL_law_380 : decode cL_law 380 = .ok (.iadd, 1) := by decide +kernel
theorem dL_law_381 : decode cL_law 381 = .ok (.iaload, 1) := by decide +kernel
theorem dL_law_382 : decode cL_law 382 = .ok (.aload_n 0, 1) := by decide +kernel
theorem dL_law_383 : decode cL_law 383 = .ok (.iload_n 3, 1) := by decide +kernel
theorem dL_law_384 : decode cL_law 384 = .ok (.iconst 2, 1) := by decide +kernel
theorem dL_law_385 : decode cL_law 385 = .ok (.iadd, 1) := by decide +kernel
theorem dL_law_386 : decode cL_law 386 = .ok (.iaload, 1) := by decide +kernel
theorem dL_law_387 : decode cL_law 387 = .ok (.invokevirtual 40, 3) := by decide +kernel
theorem dL_law_390 : decode cL_law 390 = .ok (.pop, 1) := by decide +kernel
theorem dL_law_391 : decode cL_law 391 = .ok (.goto 977, 3) := by decide +kernel
theorem dL_law_394 : decode cL_law 394 = .ok (.aload_n 1, 1) := by decide +kernel
theorem dL_law_395 : decode cL_law 395 = .ok (.aload_n 0, 1) := by decide +kernel
theorem dL_law_396 : decode cL_law 396 = .ok (.iload_n 3, 1) := by decide +kernel
theorem dL_law_397 : decode cL_law 397 = .ok (.iconst 1, 1) := by decide +kernel
theorem dL_law_398 : decode cL_law 398 = .ok (.iadd, 1) := by decide +kernel
theorem dL_law_399 : decode cL_law 399 = .ok (.iaload, 1) := by decide +kernel
theorem dL_law_400 : decode cL_law 400 = .ok (.aload_n 0, 1) := by decide +kernel
theorem dL_law_401 : decode cL_law 401 = .ok (.iload_n 3, 1) := by decide +kernel
theorem dL_law_402 : decode cL_law 402 = .ok (.iconst 2, 1) := by decide +kernel
theorem dL_law_403 : decode cL_law 403 = .ok (.iadd, 1) := by decide +kernel
theorem dL_law_404 : decode cL_law 404 = .ok (.iaload, 1) := by decide +kernel
theorem dL_law_405 : decode cL_law 405 = .ok (.invokevirtual 41, 3) := by decide +kernel
theorem dL_law_408 : decode cL_law 408 = .ok (.pop, 1) := by decide +kernel
theorem dL_law_409 : decode cL_law 409 = .ok (.aload_n 2, 1) := by decide +kernel
theorem dL_law_410 : decode cL_law 410 = .ok (.aload_n 0, 1) := by decide +kernel
theorem dL_law_411 : decode cL_law 411 = .ok (.iload_n 3, 1) := by decide +kernel
theorem dL_law_412 : decode cL_law 412 = .ok (.iconst 1, 1) := by decide +kernel
theorem dL_law_413 : decode cL_law 413 = .ok (.iadd, 1) := by decide +kernel
theorem dL_law_414 : decode cL_law 414 = .ok (.iaload, 1) := by decide +kernel
theorem dL_law_415 : decode cL_law 415 = .ok (.aload_n 0, 1) := by decide +kernel
theorem dL_law_416 : decode cL_law 416 = .ok (.iload_n 3, 1) := by decide +kernel
theorem dL_law_417 : decode cL_law 417 = .ok (.iconst 2, 1) := by decide +kernel
theorem dL_law_418 : decode cL_law 418 = .ok (.iadd, 1) := by decide +kernel
theorem dL_law_419 : decode cL_law 419 = .ok (.iaload, 1) := by decide +kernel
theorem dL_law_420 : decode cL_law 420 = .ok (.invokevirtual 44, 3) := by decide +kernel
theorem dL_law_423 : decode cL_law 423 = .ok (.pop, 1) := by decide +kernel
theorem dL_law_424 : decode cL_law 424 = .ok (.goto 944, 3) := by decide +kernel
theorem dL_law_427 : decode cL_law 427 = .ok (.aload_n 1, 1) := by decide +kernel
theorem dL_law_428 : decode cL_law 428 = .ok (.aload_n 0, 1) := by decide +kernel
theorem dL_law_429 : decode cL_law 429 = .ok (.iload_n 3, 1) := by decide +kernel
theorem dL_law_430 : decode cL_law 430 = .ok (.iconst 1, 1) := by decide +kernel
theorem dL_law_431 : decode cL_law 431 = .ok (.iadd, 1) := by decide +kernel
theorem dL_law_432 : decode cL_law 432 = .ok (.iaload, 1) := by decide +kernel
theorem dL_law_433 : decode cL_law 433 = .ok (.aload_n 0, 1) := by decide +kernel
theorem dL_law_434 : decode cL_law 434 = .ok (.iload_n 3, 1) := by decide +kernel
theorem dL_law_435 : decode cL_law 435 = .ok (.iconst 2, 1) := by decide +kernel
theorem dL_law_436 : decode cL_law 436 = .ok (.iadd, 1) := by decide +kernel
theorem dL_law_437 : decode cL_law 437 = .ok (.iaload, 1) := by decide +kernel
theorem dL_law_438 : decode cL_law 438 = .ok (.invokevirtual 45, 3) := by decide +kernel
theorem dL_law_441 : decode cL_law 441 = .ok (.pop, 1) := by decide +kernel
theorem dL_law_442 : decode cL_law 442 = .ok (.aload_n 2, 1) := by decide +kernel
theorem dL_law_443 : decode cL_law 443 = .ok (.aload_n 0, 1) := by decide +kernel
theorem dL_law_444 : decode cL_law 444 = .ok (.iload_n 3, 1) := by decide +kernel
theorem dL_law_445 : decode cL_law 445 = .ok (.iconst 1, 1) := by decide +kernel
theorem dL_law_446 : decode cL_law 446 = .ok (.iadd, 1) := by decide +kernel
theorem dL_law_447 : decode cL_law 447 = .ok (.iaload, 1) := by decide +kernel
theorem dL_law_448 : decode cL_law 448 = .ok (.aload_n 0, 1) := by decide +kernel
theorem dL_law_449 : decode cL_law 449 = .ok (.iload_n 3, 1) := by decide +kernel
theorem dL_law_450 : decode cL_law 450 = .ok (.iconst 2, 1) := by decide +kernel
theorem dL_law_451 : decode cL_law 451 = .ok (.iadd, 1) := by decide +kernel
theorem dL_law_452 : decode cL_law 452 = .ok (.iaload, 1) := by decide +kernel
theorem dL_law_453 : decode cL_law 453 = .ok (.invokevirtual 48, 3) := by decide +kernel
theorem dL_law_456 : decode cL_law 456 = .ok (.pop, 1) := by decide +kernel
theorem dL_law_457 : decode cL_law 457 = .ok (.goto 911, 3) := by decide +kernel
theorem dL_law_460 : decode cL_law 460 = .ok (.aload_n 1, 1) := by decide +kernel
theorem dL_law_461 : decode cL_law 461 = .ok (.aload_n 0, 1) := by decide +kernel
theorem dL_law_462 : decode cL_law 462 = .ok (.iload_n 3, 1) := by decide +kernel
theorem dL_law_463 : decode cL_law 463 = .ok (.iconst 1, 1) := by decide +kernel
theorem dL_law_464 : decode cL_law 464 = .ok (.iadd, 1) := by decide +kernel
theorem dL_law_465 : decode cL_law 465 = .ok (.iaload, 1) := by decide +kernel
theorem dL_law_466 : decode cL_law 466 = .ok (.aload_n 0, 1) := by decide +kernel
theorem dL_law_467 : decode cL_law 467 = .ok (.iload_n 3, 1) := by decide +kernel
theorem dL_law_468 : decode cL_law 468 = .ok (.iconst 2, 1) := by decide +kernel
theorem dL_law_469 : decode cL_law 469 = .ok (.iadd, 1) := by decide +kernel
theorem dL_law_470 : decode cL_law 470 = .ok (.iaload, 1) := by decide +kernel
theorem dL_law_471 : decode cL_law 471 = .ok (.invokevirtual 49, 3) := by decide +kernel
theorem dL_law_474 : decode cL_law 474 = .ok (.pop, 1) := by decide +kernel
theorem dL_law_475 : decode cL_law 475 = .ok (.aload_n 2, 1) := by decide +kernel
theorem dL_law_476 : decode cL_law 476 = .ok (.aload_n 0, 1) := by decide +kernel
theorem dL_law_477 : decode cL_law 477 = .ok (.iload_n 3, 1) := by decide +kernel
theorem dL_law_478 : decode cL_law 478 = .ok (.iconst 1, 1) := by decide +kernel
theorem dL_law_479 : decode cL_law 479 = .ok (.iadd, 1) := by decide +kernel
theorem dL_law_480 : decode cL_law 480 = .ok (.iaload, 1) := by decide +kernel
theorem dL_law_481 : decode cL_law 481 = .ok (.aload_n 0, 1) := by decide +kernel
theorem dL_law_482 : decode cL_law 482 = .ok (.iload_n 3, 1) := by decide +kernel
theorem dL_law_483 : decode cL_law 483 = .ok (.iconst 2, 1) := by decide +kernel
theorem dL_law_484 : decode cL_law 484 = .ok (.iadd, 1) := by decide +kernel
theorem dL_law_485 : decode cL_law 485 = .ok (.iaload, 1) := by decide +kernel
theorem dL_law_486 : decode cL_law 486 = .ok (.invokevirtual 52, 3) := by decide +kernel
theorem dL_law_489 : decode cL_law 489 = .ok (.pop, 1) := by decide +kernel
theorem dL_law_490 : decode cL_law 490 = .ok (.goto 878, 3) := by decide +kernel
theorem dL_law_493 : decode cL_law 493 = .ok (.aload_n 1, 1) := by decide +kernel
theorem dL_law_494 : decode cL_law 494 = .ok (.aload_n 0, 1) := by decide +kernel
theorem dL_law_495 : decode cL_law 495 = .ok (.iload_n 3, 1) := by decide +kernel
theorem dL_law_496 : decode cL_law 496 = .ok (.iconst 1, 1) := by decide +kernel
theorem dL_law_497 : decode cL_law 497 = .ok (.iadd, 1) := by decide +kernel
theorem dL_law_498 : decode cL_law 498 = .ok (.iaload, 1) := by decide +kernel
theorem dL_law_499 : decode cL_law 499 = .ok (.aload_n 0, 1) := by decide +kernel
theorem dL_law_500 : decode cL_law 500 = .ok (.iload_n 3, 1) := by decide +kernel
theorem dL_law_501 : decode cL_law 501 = .ok (.iconst 2, 1) := by decide +kernel
theorem dL_law_502 : decode cL_law 502 = .ok (.iadd, 1) := by decide +kernel
theorem dL_law_503 : decode cL_law 503 = .ok (.iaload, 1) := by decide +kernel
theorem dL_law_504 : decode cL_law 504 = .ok (.invokevirtual 53, 3) := by decide +kernel
theorem dL_law_507 : decode cL_law 507 = .ok (.pop, 1) := by decide +kernel
theorem dL_law_508 : decode cL_law 508 = .ok (.aload_n 2, 1) := by decide +kernel
theorem dL_law_509 : decode cL_law 509 = .ok (.aload_n 0, 1) := by decide +kernel
theorem dL_law_510 : decode cL_law 510 = .ok (.iload_n 3, 1) := by decide +kernel
theorem dL_law_511 : decode cL_law 511 = .ok (.iconst 1, 1) := by decide +kernel
theorem dL_law_512 : decode cL_law 512 = .ok (.iadd, 1) := by decide +kernel
theorem dL_law_513 : decode cL_law 513 = .ok (.iaload, 1) := by decide +kernel
theorem dL_law_514 : decode cL_law 514 = .ok (.aload_n 0, 1) := by decide +kernel
theorem dL_law_515 : decode cL_law 515 = .ok (.iload_n 3, 1) := by decide +kernel
theorem dL_law_516 : decode cL_law 516 = .ok (.iconst 2, 1) := by decide +kernel
theorem dL_law_517 : decode cL_law 517 = .ok (.iadd, 1) := by decide +kernel
theorem dL_law_518 : decode cL_law 518 = .ok (.iaload, 1) := by decide +kernel
theorem dL_law_519 : decode cL_law 519 = .ok (.invokevirtual 56, 3) := by decide +kernel
theorem dL_law_522 : decode cL_law 522 = .ok (.pop, 1) := by decide +kernel
theorem dL_law_523 : decode cL_law 523 = .ok (.goto 845, 3) := by decide +kernel
theorem dL_law_526 : decode cL_law 526 = .ok (.aload_n 1, 1) := by decide +kernel
theorem dL_law_527 : decode cL_law 527 = .ok (.aload_n 0, 1) := by decide +kernel
theorem dL_law_528 : decode cL_law 528 = .ok (.iload_n 3, 1) := by decide +kernel
theorem dL_law_529 : decode cL_law 529 = .ok (.iconst 1, 1) := by decide +kernel
theorem dL_law_530 : decode cL_law 530 = .ok (.iadd, 1) := by decide +kernel
theorem dL_law_531 : decode cL_law 531 = .ok (.iaload, 1) := by decide +kernel
theorem dL_law_532 : decode cL_law 532 = .ok (.aload_n 0, 1) := by decide +kernel
theorem dL_law_533 : decode cL_law 533 = .ok (.iload_n 3, 1) := by decide +kernel
theorem dL_law_534 : decode cL_law 534 = .ok (.iconst 2, 1) := by decide +kernel
theorem dL_law_535 : decode cL_law 535 = .ok (.iadd, 1) := by decide +kernel
theorem dL_law_536 : decode cL_law 536 = .ok (.iaload, 1) := by decide +kernel
theorem dL_law_537 : decode cL_law 537 = .ok (.aload_n 0, 1) := by decide +kernel
theorem dL_law_538 : decode cL_law 538 = .ok (.iload_n 3, 1) := by decide +kernel
theorem dL_law_539 : decode cL_law 539 = .ok (.iconst 3, 1) := by decide +kernel
theorem dL_law_540 : decode cL_law 540 = .ok (.iadd, 1) := by decide +kernel
theorem dL_law_541 : decode cL_law 541 = .ok (.iaload, 1) := by decide +kernel
theorem dL_law_542 : decode cL_law 542 = .ok (.invokevirtual 57, 3) := by decide +kernel
theorem dL_law_545 : decode cL_law 545 = .ok (.pop, 1) := by decide +kernel
theorem dL_law_546 : decode cL_law 546 = .ok (.aload_n 2, 1) := by decide +kernel
theorem dL_law_547 : decode cL_law 547 = .ok (.aload_n 0, 1) := by decide +kernel
theorem dL_law_548 : decode cL_law 548 = .ok (.iload_n 3, 1) := by decide +kernel
theorem dL_law_549 : decode cL_law 549 = .ok (.iconst 1, 1) := by decide +kernel
theorem dL_law_550 : decode cL_law 550 = .ok (.iadd, 1) := by decide +kernel
theorem dL_law_551 : decode cL_law 551 = .ok (.iaload, 1) := by decide +kernel
theorem dL_law_552 : decode cL_law 552 = .ok (.aload_n 0, 1) := by decide +kernel
theorem dL_law_553 : decode cL_law 553 = .ok (.iload_n 3, 1) := by decide +kernel
theorem dL_law_554 : decode cL_law 554 = .ok (.iconst 2, 1) := by decide +kernel
theorem dL_law_555 : decode cL_law 555 = .ok (.iadd, 1) := by decide +kernel
theorem dL_law_556 : decode cL_law 556 = .ok (.iaload, 1) := by decide +kernel
theorem dL_law_557 : decode cL_law 557 = .ok (.aload_n 0, 1) := by decide +kernel
theorem dL_law_558 : decode cL_law 558 = .ok (.iload_n 3, 1) := by decide +kernel
theorem dL_law_559 : decode cL_law 559 = .ok (.iconst 3, 1) := by decide +kernel
theorem dL_law_560 : decode cL_law 560 = .ok (.iadd, 1) := by decide +kernel
theorem dL_law_561 : decode cL_law 561 = .ok (.iaload, 1) := by decide +kernel
theorem dL_law_562 : decode cL_law 562 = .ok (.invokevirtual 61, 3) := by decide +kernel
theorem dL_law_565 : decode cL_law 565 = .ok (.pop, 1) := by decide +kernel
theorem dL_law_566 : decode cL_law 566 = .ok (.goto 802, 3) := by decide +kernel
theorem dL_law_569 : decode cL_law 569 = .ok (.aload_n 1, 1) := by decide +kernel
theorem dL_law_570 : decode cL_law 570 = .ok (.aload_n 0, 1) := by decide +kernel
theorem dL_law_571 : decode cL_law 571 = .ok (.iload_n 3, 1) := by decide +kernel
theorem dL_law_572 : decode cL_law 572 = .ok (.iconst 1, 1) := by decide +kernel
theorem dL_law_573 : decode cL_law 573 = .ok (.iadd, 1) := by decide +kernel
theorem dL_law_574 : decode cL_law 574 = .ok (.iaload, 1) := by decide +kernel
theorem dL_law_575 : decode cL_law 575 = .ok (.invokevirtual 62, 3) := by decide +kernel
theorem dL_law_578 : decode cL_law 578 = .ok (.pop, 1) := by decide +kernel
theorem dL_law_579 : decode cL_law 579 = .ok (.aload_n 2, 1) := by decide +kernel
theorem dL_law_580 : decode cL_law 580 = .ok (.aload_n 0, 1) := by decide +kernel
theorem dL_law_581 : decode cL_law 581 = .ok (.iload_n 3, 1) := by decide +kernel
theorem dL_law_582 : decode cL_law 582 = .ok (.iconst 1, 1) := by decide +kernel
theorem dL_law_583 : decode cL_law 583 = .ok (.iadd, 1) := by decide +kernel
theorem dL_law_584 : decode cL_law 584 = .ok (.iaload, 1) := by decide +kernel
theorem dL_law_585 : decode cL_law 585 = .ok (.invokevirtual 65, 3) := by decide +kernel
theorem dL_law_588 : decode cL_law 588 = .ok (.pop, 1) := by decide +kernel
theorem dL_law_589 : decode cL_law 589 = .ok (.goto 779, 3) := by decide +kernel
theorem dL_law_592 : decode cL_law 592 = .ok (.aload_n 1, 1) := by decide +kernel
theorem dL_law_593 : decode cL_law 593 = .ok (.aload_n 0, 1) := by decide +kernel
theorem dL_law_594 : decode cL_law 594 = .ok (.iload_n 3, 1) := by decide +kernel
theorem dL_law_595 : decode cL_law 595 = .ok (.iconst 1, 1) := by decide +kernel
