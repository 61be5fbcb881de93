theorem dL_law_932 : decode cL_law 932 = .ok (.aload_n 1, 1) := by decide +kernel
theorem dL_law_933 : decode cL_law 933 = .ok (.aload_n 0, 1) := by decide +kernel
theorem dL_law_934 : decode cL_law 934 = .ok (.iload_n 3, 1) := by decide +kernel
theorem dL_law_935 : decode cL_law 935 = .ok (.iconst 1, 1) := by decide +kernel
theorem dL_law_936 : decode cL_law 936 = .ok (.iadd, 1) := by decide +kernel
theorem dL_law_937 : decode cL_law 937 = .ok (.iaload, 1) := by decide +kernel
theorem dL_law_938 : decode cL_law 938 = .ok (.aload_n 0, 1) := by decide +kernel
theorem dL_law_939 : decode cL_law 939 = .ok (.iload_n 3, 1) := by decide +kernel
theorem dL_law_940 : decode cL_law 940 = .ok (.iconst 2, 1) := by decide +kernel
theorem dL_law_941 : decode cL_law 941 = .ok (.iadd, 1) := by decide +kernel
theorem dL_law_942 : decode cL_law 942 = .ok (.iaload, 1) := by decide +kernel
theorem dL_law_943 : decode cL_law 943 = .ok (.invokevirtual 116, 3) := by decide +kernel
theorem cw_X11_breaches : CWv yX11_breaches cX11_breaches 3 (some .int) 2 := ⟨⟨⟨List.mem_of_getElem? (i := 124) (by decide +kernel), by decide +kernel⟩, ⟨List.mem_of_getElem? (i := 1226) (by decide +kernel), by decide +kernel⟩, by decide +kernel⟩, ⟨List.mem_of_getElem? (i := 1224) (by decide +kernel), by decide +kernel⟩, ⟨List.mem_of_getElem? (i := 1225) (by decide +kernel), by decide +kernel⟩⟩
theorem kmL_116 : inW (Cond.methodLink RL 116 yX11_breaches) := ⟨List.mem_of_getElem? (i := 1223) (by decide +kernel), by decide +kernel⟩
theorem dL_law_946 : decode cL_law 946 = .ok (.pop, 1) := by decide +kernel
theorem dL_law_947 : decode cL_law 947 = .ok (.aload_n 2, 1) := by decide +kernel
theorem dL_law_948 : decode cL_law 948 = .ok (.aload_n 0, 1) := by decide +kernel
theorem dL_law_949 : decode cL_law 949 = .ok (.iload_n 3, 1) := by decide +kernel
theorem dL_law_950 : decode cL_law 950 = .ok (.iconst 1, 1) := by decide +kernel
theorem dL_law_951 : decode cL_law 951 = .ok (.iadd, 1) := by decide +kernel
theorem dL_law_952 : decode cL_law 952 = .ok (.iaload, 1) := by decide +kernel
theorem dL_law_953 : decode cL_law 953 = .ok (.aload_n 0, 1) := by decide +kernel
theorem dL_law_954 : decode cL_law 954 = .ok (.iload_n 3, 1) := by decide +kernel
theorem dL_law_955 : decode cL_law 955 = .ok (.iconst 2, 1) := by decide +kernel
theorem dL_law_956 : decode cL_law 956 = .ok (.iadd, 1) := by decide +kernel
theorem dL_law_957 : decode cL_law 957 = .ok (.iaload, 1) := by decide +kernel
theorem dL_law_958 : decode cL_law 958 = .ok (.invokevirtual 119, 3) := by decide +kernel
theorem cw_X12_breaches : CWv yX12_breaches cX12_breaches 5 (some .int) 2 := ⟨⟨⟨List.mem_of_getElem? (i := 137) (by decide +kernel), by decide +kernel⟩, ⟨List.mem_of_getElem? (i := 2039) (by decide +kernel), by decide +kernel⟩, by decide +kernel⟩, ⟨List.mem_of_getElem? (i := 2037) (by decide +kernel), by decide +kernel⟩, ⟨List.mem_of_getElem? (i := 2038) (by decide +kernel), by decide +kernel⟩⟩
theorem kmL_119 : inW (Cond.methodLink RL 119 yX12_breaches) := ⟨List.mem_of_getElem? (i := 2036) (by decide +kernel), by decide +kernel⟩
theorem dL_law_961 : decode cL_law 961 = .ok (.pop, 1) := by decide +kernel
theorem dL_law_962 : decode cL_law 962 = .ok (.goto 564, 3) := by decide +kernel
theorem dL_law_965 : decode cL_law 965 = .ok (.aload_n 1, 1) := by decide +kernel
theorem dL_law_966 : decode cL_law 966 = .ok (.aload_n 0, 1) := by decide +kernel
theorem dL_law_967 : decode cL_law 967 = .ok (.iload_n 3, 1) := by decide +kernel
theorem dL_law_968 : decode cL_law 968 = .ok (.iconst 1, 1) := by decide +kernel
theorem dL_law_969 : decode cL_law 969 = .ok (.iadd, 1) := by decide +kernel
theorem dL_law_970 : decode cL_law 970 = .ok (.iaload, 1) := by decide +kernel
theorem dL_law_971 : decode cL_law 971 = .ok (.aload_n 0, 1) := by decide +kernel
theorem dL_law_972 : decode cL_law 972 = .ok (.iload_n 3, 1) := by decide +kernel
theorem dL_law_973 : decode cL_law 973 = .ok (.iconst 2, 1) := by decide +kernel
theorem dL_law_974 : decode cL_law 974 = .ok (.iadd, 1) := by decide +kernel
theorem dL_law_975 : decode cL_law 975 = .ok (.iaload, 1) := by decide +kernel
theorem dL_law_976 : decode cL_law 976 = .ok (.ifCond .eq 7, 3) := by decide +kernel
theorem dL_law_983 : decode cL_law 983 = .ok (.iconst 0, 1) := by decide +kernel
theorem dL_law_984 : decode cL_law 984 = .ok (.invokevirtual 120, 3) := by decide +kernel
theorem cw_X11_odds : CWv yX11_odds cX11_odds 3 (some .int) 2 := ⟨⟨⟨List.mem_of_getElem? (i := 124) (by decide +kernel), by decide +kernel⟩, ⟨List.mem_of_getElem? (i := 1274) (by decide +kernel), by decide +kernel⟩, by decide +kernel⟩, ⟨List.mem_of_getElem? (i := 1272) (by decide +kernel), by decide +kernel⟩, ⟨List.mem_of_getElem? (i := 1273) (by decide +kernel), by decide +kernel⟩⟩
theorem kmL_120 : inW (Cond.methodLink RL 120 yX11_odds) := ⟨List.mem_of_getElem? (i := 1271) (by decide +kernel), by decide +kernel⟩
theorem dL_law_987 : decode cL_law 987 = .ok (.pop, 1) := by decide +kernel
theorem dL_law_988 : decode cL_law 988 = .ok (.aload_n 2, 1) := by decide +kernel
theorem dL_law_989 : decode cL_law 989 = .ok (.aload_n 0, 1) := by decide +kernel
theorem dL_law_990 : decode cL_law 990 = .ok (.iload_n 3, 1) := by decide +kernel
theorem dL_law_991 : decode cL_law 991 = .ok (.iconst 1, 1) := by decide +kernel
theorem dL_law_992 : decode cL_law 992 = .ok (.iadd, 1) := by decide +kernel
theorem dL_law_993 : decode cL_law 993 = .ok (.iaload, 1) := by decide +kernel
theorem dL_law_994 : decode cL_law 994 = .ok (.aload_n 0, 1) := by decide +kernel
theorem dL_law_995 : decode cL_law 995 = .ok (.iload_n 3, 1) := by decide +kernel
theorem dL_law_996 : decode cL_law 996 = .ok (.iconst 2, 1) := by decide +kernel
theorem dL_law_997 : decode cL_law 997 = .ok (.iadd, 1) := by decide +kernel
theorem dL_law_998 : decode cL_law 998 = .ok (.iaload, 1) := by decide +kernel
theorem dL_law_999 : decode cL_law 999 = .ok (.ifCond .eq 7, 3) := by decide +kernel
theorem dL_law_1006 : decode cL_law 1006 = .ok (.iconst 0, 1) := by decide +kernel
theorem dL_law_1007 : decode cL_law 1007 = .ok (.invokevirtual 124, 3) := by decide +kernel
theorem cw_X12_odds : CWv yX12_odds cX12_odds 3 (some .int) 2 := ⟨⟨⟨List.mem_of_getElem? (i := 137) (by decide +kernel), by decide +kernel⟩, ⟨List.mem_of_getElem? (i := 2051) (by decide +kernel), by decide +kernel⟩, by decide +kernel⟩, ⟨List.mem_of_getElem? (i := 2049) (by decide +kernel), by decide +kernel⟩, ⟨List.mem_of_getElem? (i := 2050) (by decide +kernel), by decide +kernel⟩⟩
theorem kmL_124 : inW (Cond.methodLink RL 124 yX12_odds) := ⟨List.mem_of_getElem? (i := 2048) (by decide +kernel), by decide +kernel⟩
theorem dL_law_1010 : decode cL_law 1010 = .ok (.pop, 1) := by decide +kernel
theorem dL_law_1011 : decode cL_law 1011 = .ok (.goto 515, 3) := by decide +kernel
theorem dL_law_979 : decode cL_law 979 = .ok (.iconst 1, 1) := by decide +kernel
theorem dL_law_980 : decode cL_law 980 = .ok (.goto 4, 3) := by decide +kernel
theorem dL_law_1002 : decode cL_law 1002 = .ok (.iconst 1, 1) := by decide +kernel
theorem dL_law_1003 : decode cL_law 1003 = .ok (.goto 4, 3) := by decide +kernel
theorem dL_law_1014 : decode cL_law 1014 = .ok (.aload_n 1, 1) := by decide +kernel
theorem dL_law_1015 : decode cL_law 1015 = .ok (.aload_n 0, 1) := by decide +kernel
theorem dL_law_1016 : decode cL_law 1016 = .ok (.iload_n 3, 1) := by decide +kernel
theorem dL_law_1017 : decode cL_law 1017 = .ok (.iconst 1, 1) := by decide +kernel
theorem dL_law_1018 : decode cL_law 1018 = .ok (.iadd, 1) := by decide +kernel
theorem dL_law_1019 : decode cL_law 1019 = .ok (.iaload, 1) := by decide +kernel
theorem dL_law_1020 : decode cL_law 1020 = .ok (.invokevirtual 125, 3) := by decide +kernel
theorem cw_X11_nextAsked : CWv yX11_nextAsked cX11_nextAsked 2 (some .int) 1 := ⟨⟨⟨List.mem_of_getElem? (i := 124) (by decide +kernel), by decide +kernel⟩, ⟨List.mem_of_getElem? (i := 1286) (by decide +kernel), by decide +kernel⟩, by decide +kernel⟩, ⟨List.mem_of_getElem? (i := 1284) (by decide +kernel), by decide +kernel⟩, ⟨List.mem_of_getElem? (i := 1285) (by decide +kernel), by decide +kernel⟩⟩
theorem kmL_125 : inW (Cond.methodLink RL 125 yX11_nextAsked) := ⟨List.mem_of_getElem? (i := 1283) (by decide +kernel), by decide +kernel⟩
theorem dL_law_1023 : decode cL_law 1023 = .ok (.pop, 1) := by decide +kernel
theorem dL_law_1024 : decode cL_law 1024 = .ok (.aload_n 2, 1) := by decide +kernel
theorem dL_law_1025 : decode cL_law 1025 = .ok (.aload_n 0, 1) := by decide +kernel
theorem dL_law_1026 : decode cL_law 1026 = .ok (.iload_n 3, 1) := by decide +kernel
theorem dL_law_1027 : decode cL_law 1027 = .ok (.iconst 1, 1) := by decide +kernel
theorem dL_law_1028 : decode cL_law 1028 = .ok (.iadd, 1) := by decide +kernel
theorem dL_law_1029 : decode cL_law 1029 = .ok (.iaload, 1) := by decide +kernel
theorem dL_law_1030 : decode cL_law 1030 = .ok (.invokevirtual 128, 3) := by decide +kernel
theorem cw_X12_nextAsked : CWv yX12_nextAsked cX12_nextAsked 6 (some .int) 1 := ⟨⟨⟨List.mem_of_getElem? (i := 137) (by decide +kernel), by decide +kernel⟩, ⟨List.mem_of_getElem? (i := 2058) (by decide +kernel), by decide +kernel⟩, by decide +kernel⟩, ⟨List.mem_of_getElem? (i := 2056) (by decide +kernel), by decide +kernel⟩, ⟨List.mem_of_getElem? (i := 2057) (by decide +kernel), by decide +kernel⟩⟩
theorem kmL_128 : inW (Cond.methodLink RL 128 yX12_nextAsked) := ⟨List.mem_of_getElem? (i := 2055) (by decide +kernel), by decide +kernel⟩
theorem dL_law_1033 : decode cL_law 1033 = .ok (.pop, 1) := by decide +kernel
theorem dL_law_1034 : decode cL_law 1034 = .ok (.goto 492, 3) := by decide +kernel
theorem dL_law_1037 : decode cL_law 1037 = .ok (.aload_n 1, 1) := by decide +kernel
theorem dL_law_1038 : decode cL_law 1038 = .ok (.aload_n 0, 1) := by decide +kernel
theorem dL_law_1039 : decode cL_law 1039 = .ok (.iload_n 3, 1) := by decide +kernel
theorem dL_law_1040 : decode cL_law 1040 = .ok (.iconst 1, 1) := by decide +kernel
theorem dL_law_1041 : decode cL_law 1041 = .ok (.iadd, 1) := by decide +kernel
theorem dL_law_1042 : decode cL_law 1042 = .ok (.iaload, 1) := by decide +kernel
theorem dL_law_1043 : decode cL_law 1043 = .ok (.aload_n 0, 1) := by decide +kernel
theorem dL_law_1044 : decode cL_law 1044 = .ok (.iload_n 3, 1) := by decide +kernel
theorem dL_law_1045 : decode cL_law 1045 = .ok (.iconst 2, 1) := by decide +kernel
theorem dL_law_1046 : decode cL_law 1046 = .ok (.iadd, 1) := by decide +kernel
theorem dL_law_1047 : decode cL_law 1047 = .ok (.iaload, 1) := by decide +kernel
theorem dL_law_1048 : decode cL_law 1048 = .ok (.invokevirtual 129, 3) := by decide +kernel
theorem cw_X11_clash : CWv yX11_clash cX11_clash 3 (some .int) 2 := ⟨⟨⟨List.mem_of_getElem? (i := 124) (by decide +kernel), by decide +kernel⟩, ⟨List.mem_of_getElem? (i := 1297) (by decide +kernel), by decide +kernel⟩, by decide +kernel⟩, ⟨List.mem_of_getElem? (i := 1295) (by decide +kernel), by decide +kernel⟩, ⟨List.mem_of_getElem? (i := 1296) (by decide +kernel), by decide +kernel⟩⟩
theorem kmL_129 : inW (Cond.methodLink RL 129 yX11_clash) := ⟨List.mem_of_getElem? (i := 1294) (by decide +kernel), by decide +kernel⟩
theorem dL_law_1051 : decode cL_law 1051 = .ok (.pop, 1) := by decide +kernel
theorem dL_law_1052 : decode cL_law 1052 = .ok (.aload_n 2, 1) := by decide +kernel
theorem dL_law_1053 : decode cL_law 1053 = .ok (.aload_n 0, 1) := by decide +kernel
theorem dL_law_1054 : decode cL_law 1054 = .ok (.iload_n 3, 1) := by decide +kernel
theorem dL_law_1055 : decode cL_law 1055 = .ok (.iconst 1, 1) := by decide +kernel
theorem dL_law_1056 : decode cL_law 1056 = .ok (.iadd, 1) := by decide +kernel
theorem dL_law_1057 : decode cL_law 1057 = .ok (.iaload, 1) := by decide +kernel
theorem dL_law_1058 : decode cL_law 1058 = .ok (.aload_n 0, 1) := by decide +kernel
theorem dL_law_1059 : decode cL_law 1059 = .ok (.iload_n 3, 1) := by decide +kernel
theorem dL_law_1060 : decode cL_law 1060 = .ok (.iconst 2, 1) := by decide +kernel
theorem dL_law_1061 : decode cL_law 1061 = .ok (.iadd, 1) := by decide +kernel
theorem dL_law_1062 : decode cL_law 1062 = .ok (.iaload, 1) := by decide +kernel
theorem dL_law_1063 : decode cL_law 1063 = .ok (.invokevirtual 132, 3) := by decide +kernel
theorem cw_X12_clash : CWv yX12_clash cX12_clash 3 (some .int) 2 := ⟨⟨⟨List.mem_of_getElem? (i := 137) (by decide +kernel), by decide +kernel⟩, ⟨List.mem_of_getElem? (i := 2062) (by decide +kernel), by decide +kernel⟩, by decide +kernel⟩, ⟨List.mem_of_getElem? (i := 2060) (by decide +kernel), by decide +kernel⟩, ⟨List.mem_of_getElem? (i := 2061) (by decide +kernel), by decide +kernel⟩⟩
theorem kmL_132 : inW (Cond.methodLink RL 132 yX12_clash) := ⟨List.mem_of_getElem? (i := 2059) (by decide +kernel), by decide +kernel⟩
theorem dL_law_1066 : decode cL_law 1066 = .ok (.pop, 1) := by decide +kernel
theorem dL_law_1067 : decode cL_law 1067 = .ok (.goto 459, 3) := by decide +kernel
theorem dL_law_1070 : decode cL_law 1070 = .ok (.aload_n 1, 1) := by decide +kernel
theorem dL_law_1071 : decode cL_law 1071 = .ok (.invokevirtual 133, 3) := by decide +kernel
theorem cw_X11_leastReleased : CWv yX11_leastReleased cX11_leastReleased 1 (some .int) 0 := ⟨⟨⟨List.mem_of_getElem? (i := 124) (by decide +kernel), by decide +kernel⟩, ⟨List.mem_of_getElem? (i := 1301) (by decide +kernel), by decide +kernel⟩, by decide +kernel⟩, ⟨List.mem_of_getElem? (i := 1299) (by decide +kernel), by decide +kernel⟩, ⟨List.mem_of_getElem? (i := 1300) (by decide +kernel), by decide +kernel⟩⟩
theorem kmL_133 : inW (Cond.methodLink RL 133 yX11_leastReleased) := ⟨List.mem_of_getElem? (i := 1298) (by decide +kernel), by decide +kernel⟩
theorem dL_law_1074 : decode cL_law 1074 = .ok (.pop, 1) := by decide +kernel
theorem dL_law_1075 : decode cL_law 1075 = .ok (.aload_n 2, 1) := by decide +kernel
theorem dL_law_1076 : decode cL_law 1076 = .ok (.invokevirtual 136, 3) := by decide +kernel
theorem cw_X12_leastReleased : CWv yX12_leastReleased cX12_leastReleased 4 (some .int) 0 := ⟨⟨⟨List.mem_of_getElem? (i := 137) (by decide +kernel), by decide +kernel⟩, ⟨List.mem_of_getElem? (i := 2066) (by decide +kernel), by decide +kernel⟩, by decide +kernel⟩, ⟨List.mem_of_getElem? (i := 2064) (by decide +kernel), by decide +kernel⟩, ⟨List.mem_of_getElem? (i := 2065) (by decide +kernel), by decide +kernel⟩⟩
theorem kmL_136 : inW (Cond.methodLink RL 136 yX12_leastReleased) := ⟨List.mem_of_getElem? (i := 2063) (by decide +kernel), by decide +kernel⟩
theorem dL_law_1079 : decode cL_law 1079 = .ok (.pop, 1) := by decide +kernel
theorem dL_law_1080 : decode cL_law 1080 = .ok (.goto 446, 3) := by decide +kernel
theorem dL_law_1083 : decode cL_law 1083 = .ok (.aload_n 1, 1) := by decide +kernel
theorem dL_law_1084 : decode cL_law 1084 = .ok (.aload_n 0, 1) := by decide +kernel
theorem dL_law_1085 : decode cL_law 1085 = .ok (.iload_n 3, 1) := by decide +kernel
theorem dL_law_1086 : decode cL_law 1086 = .ok (.iconst 1, 1) := by decide +kernel
theorem dL_law_1087 : decode cL_law 1087 = .ok (.iadd, 1) := by decide +kernel
theorem dL_law_1088 : decode cL_law 1088 = .ok (.iaload, 1) := by decide +kernel
theorem dL_law_1089 : decode cL_law 1089 = .ok (.aload_n 0, 1) := by decide +kernel
theorem dL_law_1090 : decode cL_law 1090 = .ok (.iload_n 3, 1) := by decide +kernel
theorem dL_law_1091 : decode cL_law 1091 = .ok (.iconst 2, 1) := by decide +kernel
theorem dL_law_1092 : decode cL_law 1092 = .ok (.iadd, 1) := by decide +kernel
theorem dL_law_1093 : decode cL_law 1093 = .ok (.iaload, 1) := by decide +kernel
theorem dL_law_1094 : decode cL_law 1094 = .ok (.aload_n 0, 1) := by decide +kernel
theorem dL_law_1095 : decode cL_law 1095 = .ok (.iload_n 3, 1) := by decide +kernel
theorem dL_law_1096 : decode cL_law 1096 = .ok (.iconst 3, 1) := by decide +kernel
theorem dL_law_1097 : decode cL_law 1097 = .ok (.iadd, 1) := by decide +kernel
theorem dL_law_1098 : decode cL_law 1098 = .ok (.iaload, 1) := by decide +kernel
theorem dL_law_1099 : decode cL_law 1099 = .ok (.invokevirtual 137, 3) := by decide +kernel
theorem cw_X11_forged : CWv yX11_forged cX11_forged 4 (some .int) 3 := ⟨⟨⟨List.mem_of_getElem? (i := 124) (by decide +kernel), by decide +kernel⟩, ⟨List.mem_of_getElem? (i := 1319) (by decide +kernel), by decide +kernel⟩, by decide +kernel⟩, ⟨List.mem_of_getElem? (i := 1317) (by decide +kernel), by decide +kernel⟩, ⟨List.mem_of_getElem? (i := 1318) (by decide +kernel), by decide +kernel⟩⟩
theorem kmL_137 : inW (Cond.methodLink RL 137 yX11_forged) := ⟨List.mem_of_getElem? (i := 1316) (by decide +kernel), by decide +kernel⟩
theorem dL_law_1102 : decode cL_law 1102 = .ok (.pop, 1) := by decide +kernel
theorem dL_law_1103 : decode cL_law 1103 = .ok (.aload_n 2, 1) := by decide +kernel
theorem dL_law_1104 : decode cL_law 1104 = .ok (.aload_n 0, 1) := by decide +kernel
theorem dL_law_1105 : decode cL_law 1105 = .ok (.iload_n 3, 1) := by decide +kernel
theorem dL_law_1106 : decode cL_law 1106 = .ok (.iconst 1, 1) := by decide +kernel
theorem dL_law_1107 : decode cL_law 1107 = .ok (.iadd, 1) := by decide +kernel
theorem dL_law_1108 : decode cL_law 1108 = .ok (.iaload, 1) := by decide +kernel
theorem dL_law_1109 : decode cL_law 1109 = .ok (.aload_n 0, 1) := by decide +kernel
theorem dL_law_1110 : decode cL_law 1110 = .ok (.iload_n 3, 1) := by decide +kernel
theorem dL_law_1111 : decode cL_law 1111 = .ok (.iconst 2, 1) := by decide +kernel
theorem dL_law_1112 : decode cL_law 1112 = .ok (.iadd, 1) := by decide +kernel
theorem dL_law_1113 : decode cL_law 1113 = .ok (.iaload, 1) := by decide +kernel
theorem dL_law_1114 : decode cL_law 1114 = .ok (.aload_n 0, 1) := by decide +kernel
theorem dL_law_1115 : decode cL_law 1115 = .ok (.iload_n 3, 1) := by decide +kernel
theorem dL_law_1116 : decode cL_law 1116 = .ok (.iconst 3, 1) := by decide +kernel
theorem dL_law_1117 : decode cL_law 1117 = .ok (.iadd, 1) := by decide +kernel
theorem dL_law_1118 : decode cL_law 1118 = .ok (.iaload, 1) := by decide +kernel
theorem dL_law_1119 : decode cL_law 1119 = .ok (.invokevirtual 140, 3) := by decide +kernel
theorem cw_X12_forged : CWv yX12_forged cX12_forged 6 (some .int) 3 := ⟨⟨⟨List.mem_of_getElem? (i := 137) (by decide +kernel), by decide +kernel⟩, ⟨List.mem_of_getElem? (i := 2078) (by decide +kernel), by decide +kernel⟩, by decide +kernel⟩, ⟨List.mem_of_getElem? (i := 2076) (by decide +kernel), by decide +kernel⟩, ⟨List.mem_of_getElem? (i := 2077) (by decide +kernel), by decide +kernel⟩⟩
theorem kmL_140 : inW (Cond.methodLink RL 140 yX12_forged) := ⟨List.mem_of_getElem? (i := 2075) (by decide +kernel), by decide +kernel⟩
theorem dL_law_1122 : decode cL_law 1122 = .ok (.pop, 1) := by decide +kernel
theorem dL_law_1123 : decode cL_law 1123 = .ok (.goto 403, 3) := by decide +kernel
theorem dL_law_1126 : decode cL_law 1126 = .ok (.aload_n 1, 1) := by decide +kernel
theorem dL_law_1127 : decode cL_law 1127 = .ok (.aload_n 0, 1) := by decide +kernel
theorem dL_law_1128 : decode cL_law 1128 = .ok (.iload_n 3, 1) := by decide +kernel
theorem dL_law_1129 : decode cL_law 1129 = .ok (.iconst 1, 1) := by decide +kernel
theorem dL_law_1130 : decode cL_law 1130 = .ok (.iadd, 1) := by decide +kernel
theorem dL_law_1131 : decode cL_law 1131 = .ok (.iaload, 1) := by decide +kernel
theorem dL_law_1132 : decode cL_law 1132 = .ok (.aload_n 0, 1) := by decide +kernel
theorem dL_law_1133 : decode cL_law 1133 = .ok (.iload_n 3, 1) := by decide +kernel
theorem dL_law_1134 : decode cL_law 1134 = .ok (.iconst 2, 1) := by decide +kernel
theorem dL_law_1135 : decode cL_law 1135 = .ok (.iadd, 1) := by decide +kernel
theorem dL_law_1136 : decode cL_law 1136 = .ok (.iaload, 1) := by decide +kernel
theorem dL_law_1137 : decode cL_law 1137 = .ok (.invokevirtual 141, 3) := by decide +kernel
theorem cw_X11_word : CWv yX11_word cX11_word 3 (some .int) 2 := ⟨⟨⟨List.mem_of_getElem? (i := 124) (by decide +kernel), by decide +kernel⟩, ⟨List.mem_of_getElem? (i := 1327) (by decide +kernel), by decide +kernel⟩, by decide +kernel⟩, ⟨List.mem_of_getElem? (i := 1325) (by decide +kernel), by decide +kernel⟩, ⟨List.mem_of_getElem? (i := 1326) (by decide +kernel), by decide +kernel⟩⟩
theorem kmL_141 : inW (Cond.methodLink RL 141 yX11_word) := ⟨List.mem_of_getElem? (i := 1324) (by decide +kernel), by decide +kernel⟩
theorem dL_law_1140 : decode cL_law 1140 = .ok (.pop, 1) := by decide +kernel
theorem dL_law_1141 : decode cL_law 1141 = .ok (.aload_n 2, 1) := by decide +kernel
theorem dL_law_1142 : decode cL_law 1142 = .ok (.aload_n 0, 1) := by decide +kernel
theorem dL_law_1143 : decode cL_law 1143 = .ok (.iload_n 3, 1) := by decide +kernel
theorem dL_law_1144 : decode cL_law 1144 = .ok (.iconst 1, 1) := by decide +kernel
theorem dL_law_1145 : decode cL_law 1145 = .ok (.iadd, 1) := by decide +kernel
theorem dL_law_1146 : decode cL_law 1146 = .ok (.iaload, 1) := by decide +kernel
theorem dL_law_1147 : decode cL_law 1147 = .ok (.aload_n 0, 1) := by decide +kernel
theorem dL_law_1148 : decode cL_law 1148 = .ok (.iload_n 3, 1) := by decide +kernel
theorem dL_law_1149 : decode cL_law 1149 = .ok (.iconst 2, 1) := by decide +kernel
theorem dL_law_1150 : decode cL_law 1150 = .ok (.iadd, 1) := by decide +kernel
theorem dL_law_1151 : decode cL_law 1151 = .ok (.iaload, 1) := by decide +kernel
theorem dL_law_1152 : decode cL_law 1152 = .ok (.invokevirtual 144, 3) := by decide +kernel
theorem cw_X12_word : CWv yX12_word cX12_word 3 (some .int) 2 := ⟨⟨⟨List.mem_of_getElem? (i := 137) (by decide +kernel), by decide +kernel⟩, ⟨List.mem_of_getElem? (i := 2082) (by decide +kernel), by decide +kernel⟩, by decide +kernel⟩, ⟨List.mem_of_getElem? (i := 2080) (by decide +kernel), by decide +kernel⟩, ⟨List.mem_of_getElem? (i := 2081) (by decide +kernel), by decide +kernel⟩⟩
theorem kmL_144 : inW (Cond.methodLink RL 144 yX12_word) := ⟨List.mem_of_getElem? (i := 2079) (by decide +kernel), by decide +kernel⟩
theorem dL_law_1155 : decode cL_law 1155 = .ok (.pop, 1) := by decide +kernel
theorem dL_law_1156 : decode cL_law 1156 = .ok (.goto 370, 3) := by decide +kernel
theorem dL_law_1159 : decode cL_law 1159 = .ok (.aload_n 1, 1) := by decide +kernel
theorem dL_law_1160 : decode cL_law 1160 = .ok (.aload_n 0, 1) := by decide +kernel
theorem dL_law_1161 : decode cL_law 1161 = .ok (.iload_n 3, 1) := by decide +kernel
theorem dL_law_1162 : decode cL_law 1162 = .ok (.iconst 1, 1) := by decide +kernel
theorem dL_law_1163 : decode cL_law 1163 = .ok (.iadd, 1) := by decide +kernel
theorem dL_law_1164 : decode cL_law 1164 = .ok (.iaload, 1) := by decide +kernel
theorem dL_law_1165 : decode cL_law 1165 = .ok (.invokevirtual 145, 3) := by decide +kernel
theorem cw_X11_inTime : CWv yX11_inTime cX11_inTime 3 (some .int) 1 := ⟨⟨⟨List.mem_of_getElem? (i := 124) (by decide +kernel), by decide +kernel⟩, ⟨List.mem_of_getElem? (i := 1331) (by decide +kernel), by decide +kernel⟩, by decide +kernel⟩, ⟨List.mem_of_getElem? (i := 1329) (by decide +kernel), by decide +kernel⟩, ⟨List.mem_of_getElem? (i := 1330) (by decide +kernel), by decide +kernel⟩⟩
theorem kmL_145 : inW (Cond.methodLink RL 145 yX11_inTime) := ⟨List.mem_of_getElem? (i := 1328) (by decide +kernel), by decide +kernel⟩
theorem dL_law_1168 : decode cL_law 1168 = .ok (.pop, 1) := by decide +kernel
theorem dL_law_1169 : decode cL_law 1169 = .ok (.aload_n 2, 1) := by decide +kernel
theorem dL_law_1170 : decode cL_law 1170 = .ok (.aload_n 0, 1) := by decide +kernel
theorem dL_law_1171 : decode cL_law 1171 = .ok (.iload_n 3, 1) := by decide +kernel
theorem dL_law_1172 : decode cL_law 1172 = .ok (.iconst 1, 1) := by decide +kernel
theorem dL_law_1173 : decode cL_law 1173 = .ok (.iadd, 1) := by decide +kernel
theorem dL_law_1174 : decode cL_law 1174 = .ok (.iaload, 1) := by decide +kernel
theorem dL_law_1175 : decode cL_law 1175 = .ok (.invokevirtual 148, 3) := by decide +kernel
theorem cw_X12_inTime : CWv yX12_inTime cX12_inTime 4 (some .int) 1 := ⟨⟨⟨List.mem_of_getElem? (i := 137) (by decide +kernel), by decide +kernel⟩, ⟨List.mem_of_getElem? (i := 2086) (by decide +kernel), by decide +kernel⟩, by decide +kernel⟩, ⟨List.mem_of_getElem? (i := 2084) (by decide +kernel), by decide +kernel⟩, ⟨List.mem_of_getElem? (i := 2085) (by decide +kernel), by decide +kernel⟩⟩
theorem kmL_148 : inW (Cond.methodLink RL 148 yX12_inTime) := ⟨List.mem_of_getElem? (i := 2083) (by decide +kernel), by decide +kernel⟩
theorem dL_law_1178 : decode cL_law 1178 = .ok (.pop, 1) := by decide +kernel
theorem dL_law_1179 : decode cL_law 1179 = .ok (.goto 347, 3) := by decide +kernel
theorem dL_law_1182 : decode cL_law 1182 = .ok (.aload_n 1, 1) := by decide +kernel
theorem dL_law_1183 : decode cL_law 1183 = .ok (.aload_n 0, 1) := by decide +kernel
theorem dL_law_1184 : decode cL_law 1184 = .ok (.iload_n 3, 1) := by decide +kernel
theorem dL_law_1185 : decode cL_law 1185 = .ok (.iconst 1, 1) := by decide +kernel
theorem dL_law_1186 : decode cL_law 1186 = .ok (.iadd, 1) := by decide +kernel
theorem dL_law_1187 : decode cL_law 1187 = .ok (.iaload, 1) := by decide +kernel
theorem dL_law_1188 : decode cL_law 1188 = .ok (.invokevirtual 149, 3) := by decide +kernel
theorem cw_X11_whom : CWv yX11_whom cX11_whom 6 (some .int) 1 := ⟨⟨⟨List.mem_of_getElem? (i := 124) (by decide +kernel), by decide +kernel⟩, ⟨List.mem_of_getElem? (i := 1349) (by decide +kernel), by decide +kernel⟩, by decide +kernel⟩, ⟨List.mem_of_getElem? (i := 1347) (by decide +kernel), by decide +kernel⟩, ⟨List.mem_of_getElem? (i := 1348) (by decide +kernel), by decide +kernel⟩⟩
theorem kmL_149 : inW (Cond.methodLink RL 149 yX11_whom) := ⟨List.mem_of_getElem? (i := 1346) (by decide +kernel), by decide +kernel⟩
theorem dL_law_1191 : decode cL_law 1191 = .ok (.pop, 1) := by decide +kernel
theorem dL_law_1192 : decode cL_law 1192 = .ok (.aload_n 2, 1) := by decide +kernel
theorem dL_law_1193 : decode cL_law 1193 = .ok (.aload_n 0, 1) := by decide +kernel
theorem dL_law_1194 : decode cL_law 1194 = .ok (.iload_n 3, 1) := by decide +kernel
theorem dL_law_1195 : decode cL_law 1195 = .ok (.iconst 1, 1) := by decide +kernel
theorem dL_law_1196 : decode cL_law 1196 = .ok (.iadd, 1) := by decide +kernel
theorem dL_law_1197 : decode cL_law 1197 = .ok (.iaload, 1) := by decide +kernel
theorem dL_law_1198 : decode cL_law 1198 = .ok (.invokevirtual 152, 3) := by decide +kernel
theorem cw_X12_whom : CWv yX12_whom cX12_whom 4 (some .int) 1 := ⟨⟨⟨List.mem_of_getElem? (i := 137) (by decide +kernel), by decide +kernel⟩, ⟨List.mem_of_getElem? (i := 2098) (by decide +kernel), by decide +kernel⟩, by decide +kernel⟩, ⟨List.mem_of_getElem? (i := 2096) (by decide +kernel), by decide +kernel⟩, ⟨List.mem_of_getElem? (i := 2097) (by decide +kernel), by decide +kernel⟩⟩
theorem kmL_152 : inW (Cond.methodLink RL 152 yX12_whom) := ⟨List.mem_of_getElem? (i := 2095) (by decide +kernel), by decide +kernel⟩
theorem dL_law_1201 : decode cL_law 1201 = .ok (.pop, 1) := by decide +kernel
theorem dL_law_1202 : decode cL_law 1202 = .ok (.goto 324, 3) := by decide +kernel
theorem dL_law_1205 : decode cL_law 1205 = .ok (.aload_n 1, 1) := by decide +kernel
theorem dL_law_1206 : decode cL_law 1206 = .ok (.invokevirtual 153, 3) := by decide +kernel
theorem cw_X11_ring : CWv yX11_ring cX11_ring 1 (some .int) 0 := ⟨⟨⟨List.mem_of_getElem? (i := 124) (by decide +kernel), by decide +kernel⟩, ⟨List.mem_of_getElem? (i := 1353) (by decide +kernel), by decide +kernel⟩, by decide +kernel⟩, ⟨List.mem_of_getElem? (i := 1351) (by decide +kernel), by decide +kernel⟩, ⟨List.mem_of_getElem? (i := 1352) (by decide +kernel), by decide +kernel⟩⟩
theorem kmL_153 : inW (Cond.methodLink RL 153 yX11_ring) := ⟨List.mem_of_getElem? (i := 1350) (by decide +kernel), by decide +kernel⟩
theorem dL_law_1209 : decode cL_law 1209 = .ok (.pop, 1) := by decide +kernel
theorem dL_law_1210 : decode cL_law 1210 = .ok (.aload_n 2, 1) := by decide +kernel
theorem dL_law_1211 : decode cL_law 1211 = .ok (.invokevirtual 156, 3) := by decide +kernel
theorem cw_X12_ring : CWv yX12_ring cX12_ring 4 (some .int) 0 := ⟨⟨⟨List.mem_of_getElem? (i := 137) (by decide +kernel), by decide +kernel⟩, ⟨List.mem_of_getElem? (i := 2102) (by decide +kernel), by decide +kernel⟩, by decide +kernel⟩, ⟨List.mem_of_getElem? (i := 2100) (by decide +kernel), by decide +kernel⟩, ⟨List.mem_of_getElem? (i := 2101) (by decide +kernel), by decide +kernel⟩⟩
theorem kmL_156 : inW (Cond.methodLink RL 156 yX12_ring) := ⟨List.mem_of_getElem? (i := 2099) (by decide +kernel), by decide +kernel⟩
theorem dL_law_1214 : decode cL_law 1214 = .ok (.pop, 1) := by decide +kernel
theorem dL_law_1215 : decode cL_law 1215 = .ok (.goto 311, 3) := by decide +kernel
theorem dL_law_1218 : decode cL_law 1218 = .ok (.aload_n 1, 1) := by decide +kernel
theorem dL_law_1219 : decode cL_law 1219 = .ok (.invokevirtual 157, 3) := by decide +kernel
theorem cw_X11_allSeen : CWv yX11_allSeen cX11_allSeen 1 (some .int) 0 := ⟨⟨⟨List.mem_of_getElem? (i := 124) (by decide +kernel), by decide +kernel⟩, ⟨List.mem_of_getElem? (i := 1369) (by decide +kernel), by decide +kernel⟩, by decide +kernel⟩, ⟨List.mem_of_getElem? (i := 1367) (by decide +kernel), by decide +kernel⟩, ⟨List.mem_of_getElem? (i := 1368) (by decide +kernel), by decide +kernel⟩⟩
theorem kmL_157 : inW (Cond.methodLink RL 157 yX11_allSeen) := ⟨List.mem_of_getElem? (i := 1366) (by decide +kernel), by decide +kernel⟩
theorem dL_law_1222 : decode cL_law 1222 = .ok (.pop, 1) := by decide +kernel
theorem dL_law_1223 : decode cL_law 1223 = .ok (.aload_n 2, 1) := by decide +kernel
theorem dL_law_1224 : decode cL_law 1224 = .ok (.invokevirtual 160, 3) := by decide +kernel
theorem cw_X12_allSeen : CWv yX12_allSeen cX12_allSeen 2 (some .int) 0 := ⟨⟨⟨List.mem_of_getElem? (i := 137) (by decide +kernel), by decide +kernel⟩, ⟨List.mem_of_getElem? (i := 2122) (by decide +kernel), by decide +kernel⟩, by decide +kernel⟩, ⟨List.mem_of_getElem? (i := 2120) (by decide +kernel), by decide +kernel⟩, ⟨List.mem_of_getElem? (i := 2121) (by decide +kernel), by decide +kernel⟩⟩
theorem kmL_160 : inW (Cond.methodLink RL 160 yX12_allSeen) := ⟨List.mem_of_getElem? (i := 2119) (by decide +kernel), by decide +kernel⟩
theorem dL_law_1227 : decode cL_law 1227 = .ok (.pop, 1) := by decide +kernel
theorem dL_law_1228 : decode cL_law 1228 = .ok (.goto 298, 3) := by decide +kernel
theorem dL_law_1231 : decode cL_law 1231 = .ok (.aload_n 1, 1) := by decide +kernel
theorem dL_law_1232 : decode cL_law 1232 = .ok (.aload_n 0, 1) := by decide +kernel
theorem dL_law_1233 : decode cL_law 1233 = .ok (.iload_n 3, 1) := by decide +kernel
theorem dL_law_1234 : decode cL_law 1234 = .ok (.iconst 1, 1) := by decide +kernel
theorem dL_law_1235 : decode cL_law 1235 = .ok (.iadd, 1) := by decide +kernel
theorem dL_law_1236 : decode cL_law 1236 = .ok (.iaload, 1) := by decide +kernel
theorem dL_law_1237 : decode cL_law 1237 = .ok (.aload_n 0, 1) := by decide +kernel
theorem dL_law_1238 : decode cL_law 1238 = .ok (.iload_n 3, 1) := by decide +kernel
theorem dL_law_1239 : decode cL_law 1239 = .ok (.iconst 2, 1) := by decide +kernel
theorem dL_law_1240 : decode cL_law 1240 = .ok (.iadd, 1) := by decide +kernel
theorem dL_law_1241 : decode cL_law 1241 = .ok (.iaload, 1) := by decide +kernel
theorem dL_law_1242 : decode cL_law 1242 = .ok (.invokevirtual 161, 3) := by decide +kernel
theorem cw_X11_saw : CWv yX11_saw cX11_saw 3 (some .int) 2 := ⟨⟨⟨List.mem_of_getElem? (i := 124) (by decide +kernel), by decide +kernel⟩, ⟨List.mem_of_getElem? (i := 1382) (by decide +kernel), by decide +kernel⟩, by decide +kernel⟩, ⟨List.mem_of_getElem? (i := 1380) (by decide +kernel), by decide +kernel⟩, ⟨List.mem_of_getElem? (i := 1381) (by decide +kernel), by decide +kernel⟩⟩
theorem kmL_161 : inW (Cond.methodLink RL 161 yX11_saw) := ⟨List.mem_of_getElem? (i := 1379) (by decide +kernel), by decide +kernel⟩
theorem dL_law_1245 : decode cL_law 1245 = .ok (.pop, 1) := by decide +kernel
theorem dL_law_1246 : decode cL_law 1246 = .ok (.aload_n 2, 1) := by decide +kernel
theorem dL_law_1247 : decode cL_law 1247 = .ok (.aload_n 0, 1) := by decide +kernel
theorem dL_law_1248 : decode cL_law 1248 = .ok (.iload_n 3, 1) := by decide +kernel
theorem dL_law_1249 : decode cL_law 1249 = .ok (.iconst 1, 1) := by decide +kernel
theorem dL_law_1250 : decode cL_law 1250 = .ok (.iadd, 1) := by decide +kernel
theorem dL_law_1251 : decode cL_law 1251 = .ok (.iaload, 1) := by decide +kernel
theorem dL_law_1252 : decode cL_law 1252 = .ok (.aload_n 0, 1) := by decide +kernel
theorem dL_law_1253 : decode cL_law 1253 = .ok (.iload_n 3, 1) := by decide +kernel
theorem dL_law_1254 : decode cL_law 1254 = .ok (.iconst 2, 1) := by decide +kernel
theorem dL_law_1255 : decode cL_law 1255 = .ok (.iadd, 1) := by decide +kernel
theorem dL_law_1256 : decode cL_law 1256 = .ok (.iaload, 1) := by decide +kernel
theorem dL_law_1257 : decode cL_law 1257 = .ok (.invokevirtual 164, 3) := by decide +kernel
theorem cw_X12_saw : CWv yX12_saw cX12_saw 3 (some .int) 2 := ⟨⟨⟨List.mem_of_getElem? (i := 137) (by decide +kernel), by decide +kernel⟩, ⟨List.mem_of_getElem? (i := 2106) (by decide +kernel), by decide +kernel⟩, by decide +kernel⟩, ⟨List.mem_of_getElem? (i := 2104) (by decide +kernel), by decide +kernel⟩, ⟨List.mem_of_getElem? (i := 2105) (by decide +kernel), by decide +kernel⟩⟩
theorem kmL_164 : inW (Cond.methodLink RL 164 yX12_saw) := ⟨List.mem_of_getElem? (i := 2103) (by decide +kernel), by decide +kernel⟩
theorem dL_law_1260 : decode cL_law 1260 = .ok (.pop, 1) := by decide +kernel
theorem dL_law_1261 : decode cL_law 1261 = .ok (.goto 265, 3) := by decide +kernel
set_option maxHeartbeats 4000000 in
set_option maxRecDepth 100000 in
theorem law_24 {p : Program} {e : Env} {s : State} {m : MethodId} {below : List Frame} {meth : Method} {c : Code} (l : Launch) {b L : Nat} {xs : Nat → Int32} (C0 : lw_At p s m meth c b L xs) (hL : L ≤ 3072) {G : GG} {A : Nat → Prop} (hAe : A = (fun q : Nat => s.heap.size ≤ q)) (S : SX G A p s m meth c RL code 4 ret) {aK aV : Nat → Nat} {z0 : Option Nat} (hz : ZS aK aV z0 A s s.heap) {adx adm : Nat → Nat → Nat} {i : Int32} (hi : 0 ≤ i.toInt ∧ i.toInt + 6 ≤ (L : Int)) {nL : Int} {bT : Nat → Int32} {kF pF a a8 : Int} {Lx Lm : List Nat} {fx fm : HF} {H : Heap} {locs : List Loc} {ls : Array Slot} (hC : CI G adx nL bT kF pF a a8 Lx fx) (hM : MI G adm nL bT kF pF a a8 Lm fm) (Y : DY G A s (va_pl Lx fx) Lm fm H locs) (hl : lv_has ls 4 [(3, .int i), (2, .ref (adm 0 0)), (1, .ref (adx 0 0)), (0, .ref b)]) (tail : ∀ (nL : Int) (bT : Nat → Int32) (kF pF a a8 : Int) (Lx Lm : List Nat) (fx fm : HF) (H : Heap) (locs : List Loc) (ls : Array Slot), CI G adx nL bT kF pF a a8 Lx fx → MI G adm nL bT kF pF a a8 Lm fm → DY G A s (va_pl Lx fx) Lm fm H locs → lv_has ls 4 [(3, .int i), (2, .ref (adm 0 0)), (1, .ref (adx 0 0)), (0, .ref b)] → W p l e room_1 s m #[Value.ref b] below meth c H locs 1000 60000 (lw_Z below #[Value.ref b] s) (F0 m 1526 ls [])) : W p l e room_1 s m #[Value.ref b] below meth c H locs 1000 60000 (lw_Z below #[Value.ref b] s) (F0 m 932 ls []) := by
  obtain ⟨hx, hb, hr, hml, hown, hts, hX, hbl, hlocks, hgv⟩ := id C0
  have hbA : ¬ A b := by rw [hAe]; exact Nat.not_le.mpr hbl
  refine lv_aload_n hx hb dL_law_932 rfl (lv_at hl 2 rfl) ?_
  refine lv_aload_n hx hb dL_law_933 rfl (lv_at hl 3 rfl) ?_
  refine lv_iload_n hx hb dL_law_934 rfl (lv_at hl 0 rfl) ?_
  refine lv_iconst (v := 1) hx hb dL_law_935 (by decide) ?_
  refine lv_iadd hx hb dL_law_936 ?_
  refine lv_topi (fun x_186105 ex_186105 => ?_)
  obtain ⟨v1, ev1⟩ : ∃ z, z = xs (i.toInt.toNat + (1 : Int32).toInt.toNat) := ⟨_, rfl⟩
  refine va_sld hx hb hX hbl hbA Y.2.2 (law_in ex_186105 hi hL (by decide)) dL_law_937 ?_
  refine lv_fold (z := v1) ((law_rd ex_186105 hi hL (by decide)).trans ev1.symm) ?_
  refine lv_aload_n hx hb dL_law_938 rfl (lv_at hl 3 rfl) ?_
  refine lv_iload_n hx hb dL_law_939 rfl (lv_at hl 0 rfl) ?_
  refine lv_iconst (v := 2) hx hb dL_law_940 (by decide) ?_
  refine lv_iadd hx hb dL_law_941 ?_
  refine lv_topi (fun x_186106 ex_186106 => ?_)
  obtain ⟨v2, ev2⟩ : ∃ z, z = xs (i.toInt.toNat + (2 : Int32).toInt.toNat) := ⟨_, rfl⟩
  refine va_sld hx hb hX hbl hbA Y.2.2 (law_in ex_186106 hi hL (by decide)) dL_law_942 ?_
  refine lv_fold (z := v2) ((law_rd ex_186106 hi hL (by decide)).trans ev2.symm) ?_
  have Y := Y.swap
  obtain ⟨tc, w, q, I, hW, hT, hQ, hZ, hE, hw2, hw7, hq2, hq7, ha, ha8, hL9, hBT⟩ := hC
  refine cVi (As := [.int v1, .int v2]) (rest := []) S Y (x_X11_breaches (l := l) I hW hT hQ hZ hE) cw_X11_breaches kmL_116 (I.opo (k := 0) (j := 0) (by decide) rfl).choose_spec.1 ok_X11.1 rfl rfl ⟨Nat.le_of_ble_eq_true rfl, Nat.le_of_ble_eq_true rfl⟩ hl.1 rfl (Nat.le_of_ble_eq_true rfl) ⟨Nat.le_of_ble_eq_true rfl, Nat.le_of_ble_eq_true rfl⟩ dL_law_943 (fun r_186107 L_186108 f_186109 H locs h_186110 Y => ?_)
  have I := h_186110
  have hC : CI G adx nL bT kF pF a a8 L_186108 f_186109 := ⟨tc, w, q, I, hW, hT, hQ, hZ, hE, hw2, hw7, hq2, hq7, ha, ha8, hL9, hBT⟩
  have Y := Y.swap
  refine lv_pop hx hb dL_law_946 rfl ?_
  refine lv_aload_n hx hb dL_law_947 rfl (lv_at hl 1 rfl) ?_
  refine lv_aload_n hx hb dL_law_948 rfl (lv_at hl 3 rfl) ?_
  refine lv_iload_n hx hb dL_law_949 rfl (lv_at hl 0 rfl) ?_
  refine lv_iconst (v := 1) hx hb dL_law_950 (by decide) ?_
  refine lv_iadd hx hb dL_law_951 ?_
  refine lv_topi (fun x_186111 ex_186111 => ?_)
  refine va_sld hx hb hX hbl hbA Y.2.2 (law_in ex_186111 hi hL (by decide)) dL_law_952 ?_
  refine lv_fold (z := v1) ((law_rd ex_186111 hi hL (by decide)).trans ev1.symm) ?_
  refine lv_aload_n hx hb dL_law_953 rfl (lv_at hl 3 rfl) ?_
  refine lv_iload_n hx hb dL_law_954 rfl (lv_at hl 0 rfl) ?_
  refine lv_iconst (v := 2) hx hb dL_law_955 (by decide) ?_
  refine lv_iadd hx hb dL_law_956 ?_
  refine lv_topi (fun x_186112 ex_186112 => ?_)
  refine va_sld hx hb hX hbl hbA Y.2.2 (law_in ex_186112 hi hL (by decide)) dL_law_957 ?_
  refine lv_fold (z := v2) ((law_rd ex_186112 hi hL (by decide)).trans ev2.symm) ?_
  obtain ⟨wm, wm2, g0, I, hB, hB2, hX0, ew1, ew2, ha, ha8, hL9, hBT⟩ := hM
  refine cVi (As := [.int v1, .int v2]) (rest := []) S Y (x_X12_breaches (l := l) I hB hX0) cw_X12_breaches kmL_119 (I.opo (k := 0) (j := 0) (by decide) rfl).choose_spec.1 ok_X12.1 rfl rfl ⟨Nat.le_of_ble_eq_true rfl, Nat.le_of_ble_eq_true rfl⟩ hl.1 rfl (Nat.le_of_ble_eq_true rfl) ⟨Nat.le_of_ble_eq_true rfl, Nat.le_of_ble_eq_true rfl⟩ dL_law_958 (fun r_186113 L_186114 f_186115 H locs h_186116 Y => ?_)
  have I := h_186116
  have hM : MI G adm nL bT kF pF a a8 L_186114 f_186115 := ⟨wm, wm2, g0, I, hB, hB2, hX0, ew1, ew2, ha, ha8, hL9, hBT⟩
  refine lv_pop hx hb dL_law_961 rfl ?_
  refine lv_goto (tgt := 1526) hx hb dL_law_962 (by decide) ?_
  exact tail _ _ _ _ _ _ _ _ _ _ _ _ _ hC hM Y hl
set_option maxHeartbeats 4000000 in
set_option maxRecDepth 100000 in
theorem law_25 {p : Program} {e : Env} {s : State} {m : MethodId} {below : List Frame} {meth : Method} {c : Code} (l : Launch) {b L : Nat} {xs : Nat → Int32} (C0 : lw_At p s m meth c b L xs) (hL : L ≤ 3072) {G : GG} {A : Nat → Prop} (hAe : A = (fun q : Nat => s.heap.size ≤ q)) (S : SX G A p s m meth c RL code 4 ret) {aK aV : Nat → Nat} {z0 : Option Nat} (hz : ZS aK aV z0 A s s.heap) {adx adm : Nat → Nat → Nat} {i : Int32} (hi : 0 ≤ i.toInt ∧ i.toInt + 6 ≤ (L : Int)) {nL : Int} {bT : Nat → Int32} {kF pF a a8 : Int} {Lx Lm : List Nat} {fx fm : HF} {H : Heap} {locs : List Loc} {ls : Array Slot} (hC : CI G adx nL bT kF pF a a8 Lx fx) (hM : MI G adm nL bT kF pF a a8 Lm fm) (Y : DY G A s (va_pl Lx fx) Lm fm H locs) (hl : lv_has ls 4 [(3, .int i), (2, .ref (adm 0 0)), (1, .ref (adx 0 0)), (0, .ref b)]) (tail : ∀ (nL : Int) (bT : Nat → Int32) (kF pF a a8 : Int) (Lx Lm : List Nat) (fx fm : HF) (H : Heap) (locs : List Loc) (ls : Array Slot), CI G adx nL bT kF pF a a8 Lx fx → MI G adm nL bT kF pF a a8 Lm fm → DY G A s (va_pl Lx fx) Lm fm H locs → lv_has ls 4 [(3, .int i), (2, .ref (adm 0 0)), (1, .ref (adx 0 0)), (0, .ref b)] → W p l e room_1 s m #[Value.ref b] below meth c H locs 1000 60000 (lw_Z below #[Value.ref b] s) (F0 m 1526 ls [])) : W p l e room_1 s m #[Value.ref b] below meth c H locs 1000 60000 (lw_Z below #[Value.ref b] s) (F0 m 965 ls []) := by
  obtain ⟨hx, hb, hr, hml, hown, hts, hX, hbl, hlocks, hgv⟩ := id C0
  have hbA : ¬ A b := by rw [hAe]; exact Nat.not_le.mpr hbl
  refine lv_aload_n hx hb dL_law_965 rfl (lv_at hl 2 rfl) ?_
  refine lv_aload_n hx hb dL_law_966 rfl (lv_at hl 3 rfl) ?_
  refine lv_iload_n hx hb dL_law_967 rfl (lv_at hl 0 rfl) ?_
  refine lv_iconst (v := 1) hx hb dL_law_968 (by decide) ?_
  refine lv_iadd hx hb dL_law_969 ?_
  refine lv_topi (fun x_186117 ex_186117 => ?_)
  obtain ⟨v1, ev1⟩ : ∃ z, z = xs (i.toInt.toNat + (1 : Int32).toInt.toNat) := ⟨_, rfl⟩
  refine va_sld hx hb hX hbl hbA Y.2.2 (law_in ex_186117 hi hL (by decide)) dL_law_970 ?_
  refine lv_fold (z := v1) ((law_rd ex_186117 hi hL (by decide)).trans ev1.symm) ?_
  refine lv_aload_n hx hb dL_law_971 rfl (lv_at hl 3 rfl) ?_
  refine lv_iload_n hx hb dL_law_972 rfl (lv_at hl 0 rfl) ?_
  refine lv_iconst (v := 2) hx hb dL_law_973 (by decide) ?_
  refine lv_iadd hx hb dL_law_974 ?_
  refine lv_topi (fun x_186118 ex_186118 => ?_)
  obtain ⟨v2, ev2⟩ : ∃ z, z = xs (i.toInt.toNat + (2 : Int32).toInt.toNat) := ⟨_, rfl⟩
  refine va_sld hx hb hX hbl hbA Y.2.2 (law_in ex_186118 hi hL (by decide)) dL_law_975 ?_
  refine lv_fold (z := v2) ((law_rd ex_186118 hi hL (by decide)).trans ev2.symm) ?_
  refine lv_if_eq (tgt := 983) hx hb dL_law_976 (by decide) (fun c_186119 => ?_) (fun c_186119 => ?_)
  · refine lv_iconst (v := 0) hx hb dL_law_983 (by decide) ?_
    have Y := Y.swap
    obtain ⟨tc, w, q, I, hW, hT, hQ, hZ, hE, hw2, hw7, hq2, hq7, ha, ha8, hL9, hBT⟩ := hC
    refine cVi (As := [.int v1, .int 0]) (rest := []) S Y (x_X11_odds (l := l) I hW hT hQ (show bn 0 1 (0 : Int32) from bn_k (by decide)) hZ hE) cw_X11_odds kmL_120 (I.opo (k := 0) (j := 0) (by decide) rfl).choose_spec.1 ok_X11.1 rfl rfl ⟨Nat.le_of_ble_eq_true rfl, Nat.le_of_ble_eq_true rfl⟩ hl.1 rfl (Nat.le_of_ble_eq_true rfl) ⟨Nat.le_of_ble_eq_true rfl, Nat.le_of_ble_eq_true rfl⟩ dL_law_984 (fun r_186120 L_186121 f_186122 H locs h_186123 Y => ?_)
    have I := h_186123
    have hC : CI G adx nL bT kF pF a a8 L_186121 f_186122 := ⟨tc, w, q, I, hW, hT, hQ, hZ, hE, hw2, hw7, hq2, hq7, ha, ha8, hL9, hBT⟩
    have Y := Y.swap
    refine lv_pop hx hb dL_law_987 rfl ?_
    refine lv_aload_n hx hb dL_law_988 rfl (lv_at hl 1 rfl) ?_
    refine lv_aload_n hx hb dL_law_989 rfl (lv_at hl 3 rfl) ?_
    refine lv_iload_n hx hb dL_law_990 rfl (lv_at hl 0 rfl) ?_
    refine lv_iconst (v := 1) hx hb dL_law_991 (by decide) ?_
    refine lv_iadd hx hb dL_law_992 ?_
    refine lv_topi (fun x_186124 ex_186124 => ?_)
    refine va_sld hx hb hX hbl hbA Y.2.2 (law_in ex_186124 hi hL (by decide)) dL_law_993 ?_
    refine lv_fold (z := v1) ((law_rd ex_186124 hi hL (by decide)).trans ev1.symm) ?_
    refine lv_aload_n hx hb dL_law_994 rfl (lv_at hl 3 rfl) ?_
    refine lv_iload_n hx hb dL_law_995 rfl (lv_at hl 0 rfl) ?_
    refine lv_iconst (v := 2) hx hb dL_law_996 (by decide) ?_
    refine lv_iadd hx hb dL_law_997 ?_
    refine lv_topi (fun x_186125 ex_186125 => ?_)
    refine va_sld hx hb hX hbl hbA Y.2.2 (law_in ex_186125 hi hL (by decide)) dL_law_998 ?_
    refine lv_fold (z := v2) ((law_rd ex_186125 hi hL (by decide)).trans ev2.symm) ?_
    refine lv_if_eq (tgt := 1006) hx hb dL_law_999 (by decide) (fun _ => ?_) (fun h => absurd c_186119 h)
    refine lv_iconst (v := 0) hx hb dL_law_1006 (by decide) ?_
    obtain ⟨wm, wm2, g0, I, hB, hB2, hX0, ew1, ew2, ha, ha8, hL9, hBT⟩ := hM
    refine cVi (As := [.int v1, .int 0]) (rest := []) S Y (x_X12_odds (l := l) I hB hX0 (show bn 0 1 (0 : Int32) from bn_k (by decide))) cw_X12_odds kmL_124 (I.opo (k := 0) (j := 0) (by decide) rfl).choose_spec.1 ok_X12.1 rfl rfl ⟨Nat.le_of_ble_eq_true rfl, Nat.le_of_ble_eq_true rfl⟩ hl.1 rfl (Nat.le_of_ble_eq_true rfl) ⟨Nat.le_of_ble_eq_true rfl, Nat.le_of_ble_eq_true rfl⟩ dL_law_1007 (fun r_186126 L_186127 f_186128 H locs h_186129 Y => ?_)
    have I := h_186129
    have hM : MI G adm nL bT kF pF a a8 L_186127 f_186128 := ⟨wm, wm2, g0, I, hB, hB2, hX0, ew1, ew2, ha, ha8, hL9, hBT⟩
    refine lv_pop hx hb dL_law_1010 rfl ?_
    refine lv_goto (tgt := 1526) hx hb dL_law_1011 (by decide) ?_
    exact tail _ _ _ _ _ _ _ _ _ _ _ _ _ hC hM Y hl
  · refine lv_iconst (v := 1) hx hb dL_law_979 (by decide) ?_
    refine lv_goto (tgt := 984) hx hb dL_law_980 (by decide) ?_
    have Y := Y.swap
    obtain ⟨tc, w, q, I, hW, hT, hQ, hZ, hE, hw2, hw7, hq2, hq7, ha, ha8, hL9, hBT⟩ := hC
    refine cVi (As := [.int v1, .int 1]) (rest := []) S Y (x_X11_odds (l := l) I hW hT hQ (show bn 0 1 (1 : Int32) from bn_k (by decide)) hZ hE) cw_X11_odds kmL_120 (I.opo (k := 0) (j := 0) (by decide) rfl).choose_spec.1 ok_X11.1 rfl rfl ⟨Nat.le_of_ble_eq_true rfl, Nat.le_of_ble_eq_true rfl⟩ hl.1 rfl (Nat.le_of_ble_eq_true rfl) ⟨Nat.le_of_ble_eq_true rfl, Nat.le_of_ble_eq_true rfl⟩ dL_law_984 (fun r_186130 L_186131 f_186132 H locs h_186133 Y => ?_)
    have I := h_186133
    have hC : CI G adx nL bT kF pF a a8 L_186131 f_186132 := ⟨tc, w, q, I, hW, hT, hQ, hZ, hE, hw2, hw7, hq2, hq7, ha, ha8, hL9, hBT⟩
    have Y := Y.swap
    refine lv_pop hx hb dL_law_987 rfl ?_
    refine lv_aload_n hx hb dL_law_988 rfl (lv_at hl 1 rfl) ?_
    refine lv_aload_n hx hb dL_law_989 rfl (lv_at hl 3 rfl) ?_
    refine lv_iload_n hx hb dL_law_990 rfl (lv_at hl 0 rfl) ?_
    refine lv_iconst (v := 1) hx hb dL_law_991 (by decide) ?_
    refine lv_iadd hx hb dL_law_992 ?_
    refine lv_topi (fun x_186134 ex_186134 => ?_)
    refine va_sld hx hb hX hbl hbA Y.2.2 (law_in ex_186134 hi hL (by decide)) dL_law_993 ?_
    refine lv_fold (z := v1) ((law_rd ex_186134 hi hL (by decide)).trans ev1.symm) ?_
    refine lv_aload_n hx hb dL_law_994 rfl (lv_at hl 3 rfl) ?_
    refine lv_iload_n hx hb dL_law_995 rfl (lv_at hl 0 rfl) ?_
    refine lv_iconst (v := 2) hx hb dL_law_996 (by decide) ?_
    refine lv_iadd hx hb dL_law_997 ?_
    refine lv_topi (fun x_186135 ex_186135 => ?_)
    refine va_sld hx hb hX hbl hbA Y.2.2 (law_in ex_186135 hi hL (by decide)) dL_law_998 ?_
    refine lv_fold (z := v2) ((law_rd ex_186135 hi hL (by decide)).trans ev2.symm) ?_
    refine lv_if_eq (tgt := 1006) hx hb dL_law_999 (by decide) (fun h => absurd h c_186119) (fun _ => ?_)
    refine lv_iconst (v := 1) hx hb dL_law_1002 (by decide) ?_
    refine lv_goto (tgt := 1007) hx hb dL_law_1003 (by decide) ?_
    obtain ⟨wm, wm2, g0, I, hB, hB2, hX0, ew1, ew2, ha, ha8, hL9, hBT⟩ := hM
    refine cVi (As := [.int v1, .int 1]) (rest := []) S Y (x_X12_odds (l := l) I hB hX0 (show bn 0 1 (1 : Int32) from bn_k (by decide))) cw_X12_odds kmL_124 (I.opo (k := 0) (j := 0) (by decide) rfl).choose_spec.1 ok_X12.1 rfl rfl ⟨Nat.le_of_ble_eq_true rfl, Nat.le_of_ble_eq_true rfl⟩ hl.1 rfl (Nat.le_of_ble_eq_true rfl) ⟨Nat.le_of_ble_eq_true rfl, Nat.le_of_ble_eq_true rfl⟩ dL_law_1007 (fun r_186136 L_186137 f_186138 H locs h_186139 Y => ?_)
    have I := h_186139
    have hM : MI G adm nL bT kF pF a a8 L_186137 f_186138 := ⟨wm, wm2, g0, I, hB, hB2, hX0, ew1, ew2, ha, ha8, hL9, hBT⟩
    refine lv_pop hx hb dL_law_1010 rfl ?_
    refine lv_goto (tgt := 1526) hx hb dL_law_1011 (by decide) ?_
    exact tail _ _ _ _ _ _ _ _ _ _ _ _ _ hC hM Y hl
set_option maxHeartbeats 4000000 in
set_option maxRecDepth 100000 in
theorem law_26 {p : Program} {e : Env} {s : State} {m : MethodId} {below : List Frame} {meth : Method} {c : Code} (l : Launch) {b L : Nat} {xs : Nat → Int32} (C0 : lw_At p s m meth c b L xs) (hL : L ≤ 3072) {G : GG} {A : Nat → Prop} (hAe : A = (fun q : Nat => s.heap.size ≤ q)) (S : SX G A p s m meth c RL code 4 ret) {aK aV : Nat → Nat} {z0 : Option Nat} (hz : ZS aK aV z0 A s s.heap) {adx adm : Nat → Nat → Nat} {i : Int32} (hi : 0 ≤ i.toInt ∧ i.toInt + 6 ≤ (L : Int)) {nL : Int} {bT : Nat → Int32} {kF pF a a8 : Int} {Lx Lm : List Nat} {fx fm : HF} {H : Heap} {locs : List Loc} {ls : Array Slot} (hC : CI G adx nL bT kF pF a a8 Lx fx) (hM : MI G adm nL bT kF pF a a8 Lm fm) (Y : DY G A s (va_pl Lx fx) Lm fm H locs) (hl : lv_has ls 4 [(3, .int i), (2, .ref (adm 0 0)), (1, .ref (adx 0 0)), (0, .ref b)]) (tail : ∀ (nL : Int) (bT : Nat → Int32) (kF pF a a8 : Int) (Lx Lm : List Nat) (fx fm : HF) (H : Heap) (locs : List Loc) (ls : Array Slot), CI G adx nL bT kF pF a a8 Lx fx → MI G adm nL bT kF pF a a8 Lm fm → DY G A s (va_pl Lx fx) Lm fm H locs → lv_has ls 4 [(3, .int i), (2, .ref (adm 0 0)), (1, .ref (adx 0 0)), (0, .ref b)] → W p l e room_1 s m #[Value.ref b] below meth c H locs 1000 60000 (lw_Z below #[Value.ref b] s) (F0 m 1526 ls [])) : W p l e room_1 s m #[Value.ref b] below meth c H locs 1000 60000 (lw_Z below #[Value.ref b] s) (F0 m 1014 ls []) := by
  obtain ⟨hx, hb, hr, hml, hown, hts, hX, hbl, hlocks, hgv⟩ := id C0
  have hbA : ¬ A b := by rw [hAe]; exact Nat.not_le.mpr hbl
  refine lv_aload_n hx hb dL_law_1014 rfl (lv_at hl 2 rfl) ?_
  refine lv_aload_n hx hb dL_law_1015 rfl (lv_at hl 3 rfl) ?_
  refine lv_iload_n hx hb dL_law_1016 rfl (lv_at hl 0 rfl) ?_
  refine lv_iconst (v := 1) hx hb dL_law_1017 (by decide) ?_
  refine lv_iadd hx hb dL_law_1018 ?_
  refine lv_topi (fun x_186140 ex_186140 => ?_)
  obtain ⟨v1, ev1⟩ : ∃ z, z = xs (i.toInt.toNat + (1 : Int32).toInt.toNat) := ⟨_, rfl⟩
  refine va_sld hx hb hX hbl hbA Y.2.2 (law_in ex_186140 hi hL (by decide)) dL_law_1019 ?_
  refine lv_fold (z := v1) ((law_rd ex_186140 hi hL (by decide)).trans ev1.symm) ?_
  have Y := Y.swap
  obtain ⟨tc, w, q, I, hW, hT, hQ, hZ, hE, hw2, hw7, hq2, hq7, ha, ha8, hL9, hBT⟩ := hC
  refine cVi (As := [.int v1]) (rest := []) S Y (x_X11_nextAsked (l := l) I hW hT hQ hZ hE) cw_X11_nextAsked kmL_125 (I.opo (k := 0) (j := 0) (by decide) rfl).choose_spec.1 ok_X11.1 rfl rfl ⟨Nat.le_of_ble_eq_true rfl, Nat.le_of_ble_eq_true rfl⟩ hl.1 rfl (Nat.le_of_ble_eq_true rfl) ⟨Nat.le_of_ble_eq_true rfl, Nat.le_of_ble_eq_true rfl⟩ dL_law_1020 (fun r_186141 L_186142 f_186143 H locs h_186144 Y => ?_)
  have I := h_186144
  have hC : CI G adx nL bT kF pF a a8 L_186142 f_186143 := ⟨tc, w, q, I, hW, hT, hQ, hZ, hE, hw2, hw7, hq2, hq7, ha, ha8, hL9, hBT⟩
  have Y := Y.swap
  refine lv_pop hx hb dL_law_1023 rfl ?_
  refine lv_aload_n hx hb dL_law_1024 rfl (lv_at hl 1 rfl) ?_
  refine lv_aload_n hx hb dL_law_1025 rfl (lv_at hl 3 rfl) ?_
  refine lv_iload_n hx hb dL_law_1026 rfl (lv_at hl 0 rfl) ?_
  refine lv_iconst (v := 1) hx hb dL_law_1027 (by decide) ?_
  refine lv_iadd hx hb dL_law_1028 ?_
  refine lv_topi (fun x_186145 ex_186145 => ?_)
  refine va_sld hx hb hX hbl hbA Y.2.2 (law_in ex_186145 hi hL (by decide)) dL_law_1029 ?_
  refine lv_fold (z := v1) ((law_rd ex_186145 hi hL (by decide)).trans ev1.symm) ?_
  obtain ⟨wm, wm2, g0, I, hB, hB2, hX0, ew1, ew2, ha, ha8, hL9, hBT⟩ := hM
  refine cVi (As := [.int v1]) (rest := []) S Y (x_X12_nextAsked (l := l) I hB hX0) cw_X12_nextAsked kmL_128 (I.opo (k := 0) (j := 0) (by decide) rfl).choose_spec.1 ok_X12.1 rfl rfl ⟨Nat.le_of_ble_eq_true rfl, Nat.le_of_ble_eq_true rfl⟩ hl.1 rfl (Nat.le_of_ble_eq_true rfl) ⟨Nat.le_of_ble_eq_true rfl, Nat.le_of_ble_eq_true rfl⟩ dL_law_1030 (fun r_186146 L_186147 f_186148 H locs h_186149 Y => ?_)
  have I := h_186149
  have hM : MI G adm nL bT kF pF a a8 L_186147 f_186148 := ⟨wm, wm2, g0, I, hB, hB2, hX0, ew1, ew2, ha, ha8, hL9, hBT⟩
  refine lv_pop hx hb dL_law_1033 rfl ?_
  refine lv_goto (tgt := 1526) hx hb dL_law_1034 (by decide) ?_
  exact tail _ _ _ _ _ _ _ _ _ _ _ _ _ hC hM Y hl
set_option maxHeartbeats 4000000 in
set_option maxRecDepth 100000 in
theorem law_27 {p : Program} {e : Env} {s : State} {m : MethodId} {below : List Frame} {meth : Method} {c : Code} (l : Launch) {b L : Nat} {xs : Nat → Int32} (C0 : lw_At p s m meth c b L xs) (hL : L ≤ 3072) {G : GG} {A : Nat → Prop} (hAe : A = (fun q : Nat => s.heap.size ≤ q)) (S : SX G A p s m meth c RL code 4 ret) {aK aV : Nat → Nat} {z0 : Option Nat} (hz : ZS aK aV z0 A s s.heap) {adx adm : Nat → Nat → Nat} {i : Int32} (hi : 0 ≤ i.toInt ∧ i.toInt + 6 ≤ (L : Int)) {nL : Int} {bT : Nat → Int32} {kF pF a a8 : Int} {Lx Lm : List Nat} {fx fm : HF} {H : Heap} {locs : List Loc} {ls : Array Slot} (hC : CI G adx nL bT kF pF a a8 Lx fx) (hM : MI G adm nL bT kF pF a a8 Lm fm) (Y : DY G A s (va_pl Lx fx) Lm fm H locs) (hl : lv_has ls 4 [(3, .int i), (2, .ref (adm 0 0)), (1, .ref (adx 0 0)), (0, .ref b)]) (tail : ∀ (nL : Int) (bT : Nat → Int32) (kF pF a a8 : Int) (Lx Lm : List Nat) (fx fm : HF) (H : Heap) (locs : List Loc) (ls : Array Slot), CI G adx nL bT kF pF a a8 Lx fx → MI G adm nL bT kF pF a a8 Lm fm → DY G A s (va_pl Lx fx) Lm fm H locs → lv_has ls 4 [(3, .int i), (2, .ref (adm 0 0)), (1, .ref (adx 0 0)), (0, .ref b)] → W p l e room_1 s m #[Value.ref b] below meth c H locs 1000 60000 (lw_Z below #[Value.ref b] s) (F0 m 1526 ls [])) : W p l e room_1 s m #[Value.ref b] below meth c H locs 1000 60000 (lw_Z below #[Value.ref b] s) (F0 m 1037 ls []) := by
  obtain ⟨hx, hb, hr, hml, hown, hts, hX, hbl, hlocks, hgv⟩ := id C0
  have hbA : ¬ A b := by rw [hAe]; exact Nat.not_le.mpr hbl
  refine lv_aload_n hx hb dL_law_1037 rfl (lv_at hl 2 rfl) ?_
  refine lv_aload_n hx hb dL_law_1038 rfl (lv_at hl 3 rfl) ?_
  refine lv_iload_n hx hb dL_law_1039 rfl (lv_at hl 0 rfl) ?_
  refine lv_iconst (v := 1) hx hb dL_law_1040 (by decide) ?_
  refine lv_iadd hx hb dL_law_1041 ?_
  refine lv_topi (fun x_186150 ex_186150 => ?_)
  obtain ⟨v1, ev1⟩ : ∃ z, z = xs (i.toInt.toNat + (1 : Int32).toInt.toNat) := ⟨_, rfl⟩
  refine va_sld hx hb hX hbl hbA Y.2.2 (law_in ex_186150 hi hL (by decide)) dL_law_1042 ?_
  refine lv_fold (z := v1) ((law_rd ex_186150 hi hL (by decide)).trans ev1.symm) ?_
  refine lv_aload_n hx hb dL_law_1043 rfl (lv_at hl 3 rfl) ?_
  refine lv_iload_n hx hb dL_law_1044 rfl (lv_at hl 0 rfl) ?_
  refine lv_iconst (v := 2) hx hb dL_law_1045 (by decide) ?_
  refine lv_iadd hx hb dL_law_1046 ?_
  refine lv_topi (fun x_186151 ex_186151 => ?_)
  obtain ⟨v2, ev2⟩ : ∃ z, z = xs (i.toInt.toNat + (2 : Int32).toInt.toNat) := ⟨_, rfl⟩
  refine va_sld hx hb hX hbl hbA Y.2.2 (law_in ex_186151 hi hL (by decide)) dL_law_1047 ?_
  refine lv_fold (z := v2) ((law_rd ex_186151 hi hL (by decide)).trans ev2.symm) ?_
  have Y := Y.swap
  obtain ⟨tc, w, q, I, hW, hT, hQ, hZ, hE, hw2, hw7, hq2, hq7, ha, ha8, hL9, hBT⟩ := hC
  refine cVi (As := [.int v1, .int v2]) (rest := []) S Y (x_X11_clash (l := l) I hW hT hQ hZ hE) cw_X11_clash kmL_129 (I.opo (k := 0) (j := 0) (by decide) rfl).choose_spec.1 ok_X11.1 rfl rfl ⟨Nat.le_of_ble_eq_true rfl, Nat.le_of_ble_eq_true rfl⟩ hl.1 rfl (Nat.le_of_ble_eq_true rfl) ⟨Nat.le_of_ble_eq_true rfl, Nat.le_of_ble_eq_true rfl⟩ dL_law_1048 (fun r_186152 L_186153 f_186154 H locs h_186155 Y => ?_)
  have I := h_186155
  have hC : CI G adx nL bT kF pF a a8 L_186153 f_186154 := ⟨tc, w, q, I, hW, hT, hQ, hZ, hE, hw2, hw7, hq2, hq7, ha, ha8, hL9, hBT⟩
  have Y := Y.swap
  refine lv_pop hx hb dL_law_1051 rfl ?_
  refine lv_aload_n hx hb dL_law_1052 rfl (lv_at hl 1 rfl) ?_
  refine lv_aload_n hx hb dL_law_1053 rfl (lv_at hl 3 rfl) ?_
  refine lv_iload_n hx hb dL_law_1054 rfl (lv_at hl 0 rfl) ?_
  refine lv_iconst (v := 1) hx hb dL_law_1055 (by decide) ?_
  refine lv_iadd hx hb dL_law_1056 ?_
  refine lv_topi (fun x_186156 ex_186156 => ?_)
  refine va_sld hx hb hX hbl hbA Y.2.2 (law_in ex_186156 hi hL (by decide)) dL_law_1057 ?_
  refine lv_fold (z := v1) ((law_rd ex_186156 hi hL (by decide)).trans ev1.symm) ?_
  refine lv_aload_n hx hb dL_law_1058 rfl (lv_at hl 3 rfl) ?_
  refine lv_iload_n hx hb dL_law_1059 rfl (lv_at hl 0 rfl) ?_
  refine lv_iconst (v := 2) hx hb dL_law_1060 (by decide) ?_
  refine lv_iadd hx hb dL_law_1061 ?_
  refine lv_topi (fun x_186157 ex_186157 => ?_)
  refine va_sld hx hb hX hbl hbA Y.2.2 (law_in ex_186157 hi hL (by decide)) dL_law_1062 ?_
  refine lv_fold (z := v2) ((law_rd ex_186157 hi hL (by decide)).trans ev2.symm) ?_
  obtain ⟨wm, wm2, g0, I, hB, hB2, hX0, ew1, ew2, ha, ha8, hL9, hBT⟩ := hM
  refine cVi (As := [.int v1, .int v2]) (rest := []) S Y (x_X12_clash (l := l) I hB hX0) cw_X12_clash kmL_132 (I.opo (k := 0) (j := 0) (by decide) rfl).choose_spec.1 ok_X12.1 rfl rfl ⟨Nat.le_of_ble_eq_true rfl, Nat.le_of_ble_eq_true rfl⟩ hl.1 rfl (Nat.le_of_ble_eq_true rfl) ⟨Nat.le_of_ble_eq_true rfl, Nat.le_of_ble_eq_true rfl⟩ dL_law_1063 (fun r_186158 L_186159 f_186160 H locs h_186161 Y => ?_)
  have I := h_186161
  have hM : MI G adm nL bT kF pF a a8 L_186159 f_186160 := ⟨wm, wm2, g0, I, hB, hB2, hX0, ew1, ew2, ha, ha8, hL9, hBT⟩
  refine lv_pop hx hb dL_law_1066 rfl ?_
  refine lv_goto (tgt := 1526) hx hb dL_law_1067 (by decide) ?_
  exact tail _ _ _ _ _ _ _ _ _ _ _ _ _ hC hM Y hl
set_option maxHeartbeats 4000000 in
set_option maxRecDepth 100000 in
theorem law_28 {p : Program} {e : Env} {s : State} {m : MethodId} {below : List Frame} {meth : Method} {c : Code} (l : Launch) {b L : Nat} {xs : Nat → Int32} (C0 : lw_At p s m meth c b L xs) (hL : L ≤ 3072) {G : GG} {A : Nat → Prop} (hAe : A = (fun q : Nat => s.heap.size ≤ q)) (S : SX G A p s m meth c RL code 4 ret) {aK aV : Nat → Nat} {z0 : Option Nat} (hz : ZS aK aV z0 A s s.heap) {adx adm : Nat → Nat → Nat} {i : Int32} (hi : 0 ≤ i.toInt ∧ i.toInt + 6 ≤ (L : Int)) {nL : Int} {bT : Nat → Int32} {kF pF a a8 : Int} {Lx Lm : List Nat} {fx fm : HF} {H : Heap} {locs : List Loc} {ls : Array Slot} (hC : CI G adx nL bT kF pF a a8 Lx fx) (hM : MI G adm nL bT kF pF a a8 Lm fm) (Y : DY G A s (va_pl Lx fx) Lm fm H locs) (hl : lv_has ls 4 [(3, .int i), (2, .ref (adm 0 0)), (1, .ref (adx 0 0)), (0, .ref b)]) (tail : ∀ (nL : Int) (bT : Nat → Int32) (kF pF a a8 : Int) (Lx Lm : List Nat) (fx fm : HF) (H : Heap) (locs : List Loc) (ls : Array Slot), CI G adx nL bT kF pF a a8 Lx fx → MI G adm nL bT kF pF a a8 Lm fm → DY G A s (va_pl Lx fx) Lm fm H locs → lv_has ls 4 [(3, .int i), (2, .ref (adm 0 0)), (1, .ref (adx 0 0)), (0, .ref b)] → W p l e room_1 s m #[Value.ref b] below meth c H locs 1000 60000 (lw_Z below #[Value.ref b] s) (F0 m 1526 ls [])) : W p l e room_1 s m #[Value.ref b] below meth c H locs 1000 60000 (lw_Z below #[Value.ref b] s) (F0 m 1070 ls []) := by
  obtain ⟨hx, hb, hr, hml, hown, hts, hX, hbl, hlocks, hgv⟩ := id C0
  have hbA : ¬ A b := by rw [hAe]; exact Nat.not_le.mpr hbl
  refine lv_aload_n hx hb dL_law_1070 rfl (lv_at hl 2 rfl) ?_
  have Y := Y.swap
  obtain ⟨tc, w, q, I, hW, hT, hQ, hZ, hE, hw2, hw7, hq2, hq7, ha, ha8, hL9, hBT⟩ := hC
  refine cVi (As := []) (rest := []) S Y (x_X11_leastReleased (l := l) I hW hT hQ hZ hE) cw_X11_leastReleased kmL_133 (I.opo (k := 0) (j := 0) (by decide) rfl).choose_spec.1 ok_X11.1 rfl rfl ⟨Nat.le_of_ble_eq_true rfl, Nat.le_of_ble_eq_true rfl⟩ hl.1 rfl (Nat.le_of_ble_eq_true rfl) ⟨Nat.le_of_ble_eq_true rfl, Nat.le_of_ble_eq_true rfl⟩ dL_law_1071 (fun r_186162 L_186163 f_186164 H locs h_186165 Y => ?_)
  have I := h_186165
  have hC : CI G adx nL bT kF pF a a8 L_186163 f_186164 := ⟨tc, w, q, I, hW, hT, hQ, hZ, hE, hw2, hw7, hq2, hq7, ha, ha8, hL9, hBT⟩
  have Y := Y.swap
  refine lv_pop hx hb dL_law_1074 rfl ?_
  refine lv_aload_n hx hb dL_law_1075 rfl (lv_at hl 1 rfl) ?_
  obtain ⟨wm, wm2, g0, I, hB, hB2, hX0, ew1, ew2, ha, ha8, hL9, hBT⟩ := hM
  refine cVp (As := []) (rest := []) S Y (x_X12_leastReleased (l := l) I hB hX0) cw_X12_leastReleased kmL_136 (I.opo (k := 0) (j := 0) (by decide) rfl).choose_spec.1 ok_X12.1 rfl rfl ⟨Nat.le_of_ble_eq_true rfl, Nat.le_of_ble_eq_true rfl⟩ hl.1 rfl (Nat.le_of_ble_eq_true rfl) ⟨Nat.le_of_ble_eq_true rfl, Nat.le_of_ble_eq_true rfl⟩ dL_law_1076 (fun r_186166 H locs er_186166 Y => ?_)
  have hM : MI G adm nL bT kF pF a a8 Lm fm := ⟨wm, wm2, g0, I, hB, hB2, hX0, ew1, ew2, ha, ha8, hL9, hBT⟩
  refine lv_pop hx hb dL_law_1079 rfl ?_
  refine lv_goto (tgt := 1526) hx hb dL_law_1080 (by decide) ?_
  exact tail _ _ _ _ _ _ _ _ _ _ _ _ _ hC hM Y hl
set_option maxHeartbeats 4000000 in
set_option maxRecDepth 100000 in
theorem law_29 {p : Program} {e : Env} {s : State} {m : MethodId} {below : List Frame} {meth : Method} {c : Code} (l : Launch) {b L : Nat} {xs : Nat → Int32} (C0 : lw_At p s m meth c b L xs) (hL : L ≤ 3072) {G : GG} {A : Nat → Prop} (hAe : A = (fun q : Nat => s.heap.size ≤ q)) (S : SX G A p s m meth c RL code 4 ret) {aK aV : Nat → Nat} {z0 : Option Nat} (hz : ZS aK aV z0 A s s.heap) {adx adm : Nat → Nat → Nat} {i : Int32} (hi : 0 ≤ i.toInt ∧ i.toInt + 6 ≤ (L : Int)) {nL : Int} {bT : Nat → Int32} {kF pF a a8 : Int} {Lx Lm : List Nat} {fx fm : HF} {H : Heap} {locs : List Loc} {ls : Array Slot} (hC : CI G adx nL bT kF pF a a8 Lx fx) (hM : MI G adm nL bT kF pF a a8 Lm fm) (Y : DY G A s (va_pl Lx fx) Lm fm H locs) (hl : lv_has ls 4 [(3, .int i), (2, .ref (adm 0 0)), (1, .ref (adx 0 0)), (0, .ref b)]) (tail : ∀ (nL : Int) (bT : Nat → Int32) (kF pF a a8 : Int) (Lx Lm : List Nat) (fx fm : HF) (H : Heap) (locs : List Loc) (ls : Array Slot), CI G adx nL bT kF pF a a8 Lx fx → MI G adm nL bT kF pF a a8 Lm fm → DY G A s (va_pl Lx fx) Lm fm H locs → lv_has ls 4 [(3, .int i), (2, .ref (adm 0 0)), (1, .ref (adx 0 0)), (0, .ref b)] → W p l e room_1 s m #[Value.ref b] below meth c H locs 1000 60000 (lw_Z below #[Value.ref b] s) (F0 m 1526 ls [])) : W p l e room_1 s m #[Value.ref b] below meth c H locs 1000 60000 (lw_Z below #[Value.ref b] s) (F0 m 1083 ls []) := by
  obtain ⟨hx, hb, hr, hml, hown, hts, hX, hbl, hlocks, hgv⟩ := id C0
  have hbA : ¬ A b := by rw [hAe]; exact Nat.not_le.mpr hbl
  refine lv_aload_n hx hb dL_law_1083 rfl (lv_at hl 2 rfl) ?_
  refine lv_aload_n hx hb dL_law_1084 rfl (lv_at hl 3 rfl) ?_
  refine lv_iload_n hx hb dL_law_1085 rfl (lv_at hl 0 rfl) ?_
  refine lv_iconst (v := 1) hx hb dL_law_1086 (by decide) ?_
  refine lv_iadd hx hb dL_law_1087 ?_
  refine lv_topi (fun x_186167 ex_186167 => ?_)
  obtain ⟨v1, ev1⟩ : ∃ z, z = xs (i.toInt.toNat + (1 : Int32).toInt.toNat) := ⟨_, rfl⟩
  refine va_sld hx hb hX hbl hbA Y.2.2 (law_in ex_186167 hi hL (by decide)) dL_law_1088 ?_
  refine lv_fold (z := v1) ((law_rd ex_186167 hi hL (by decide)).trans ev1.symm) ?_
  refine lv_aload_n hx hb dL_law_1089 rfl (lv_at hl 3 rfl) ?_
  refine lv_iload_n hx hb dL_law_1090 rfl (lv_at hl 0 rfl) ?_
  refine lv_iconst (v := 2) hx hb dL_law_1091 (by decide) ?_
  refine lv_iadd hx hb dL_law_1092 ?_
  refine lv_topi (fun x_186168 ex_186168 => ?_)
  obtain ⟨v2, ev2⟩ : ∃ z, z = xs (i.toInt.toNat + (2 : Int32).toInt.toNat) := ⟨_, rfl⟩
  refine va_sld hx hb hX hbl hbA Y.2.2 (law_in ex_186168 hi hL (by decide)) dL_law_1093 ?_
  refine lv_fold (z := v2) ((law_rd ex_186168 hi hL (by decide)).trans ev2.symm) ?_
  refine lv_aload_n hx hb dL_law_1094 rfl (lv_at hl 3 rfl) ?_
  refine lv_iload_n hx hb dL_law_1095 rfl (lv_at hl 0 rfl) ?_
  refine lv_iconst (v := 3) hx hb dL_law_1096 (by decide) ?_
  refine lv_iadd hx hb dL_law_1097 ?_
  refine lv_topi (fun x_186169 ex_186169 => ?_)
  obtain ⟨v3, ev3⟩ : ∃ z, z = xs (i.toInt.toNat + (3 : Int32).toInt.toNat) := ⟨_, rfl⟩
  refine va_sld hx hb hX hbl hbA Y.2.2 (law_in ex_186169 hi hL (by decide)) dL_law_1098 ?_
  refine lv_fold (z := v3) ((law_rd ex_186169 hi hL (by decide)).trans ev3.symm) ?_
  have Y := Y.swap
  obtain ⟨tc, w, q, I, hW, hT, hQ, hZ, hE, hw2, hw7, hq2, hq7, ha, ha8, hL9, hBT⟩ := hC
  refine cVi (As := [.int v1, .int v2, .int v3]) (rest := []) S Y (x_X11_forged (l := l) I hW hT hQ hZ hE) cw_X11_forged kmL_137 (I.opo (k := 0) (j := 0) (by decide) rfl).choose_spec.1 ok_X11.1 rfl rfl ⟨Nat.le_of_ble_eq_true rfl, Nat.le_of_ble_eq_true rfl⟩ hl.1 rfl (Nat.le_of_ble_eq_true rfl) ⟨Nat.le_of_ble_eq_true rfl, Nat.le_of_ble_eq_true rfl⟩ dL_law_1099 (fun r_186170 L_186171 f_186172 H locs h_186173 Y => ?_)
  have I := h_186173
  have hC : CI G adx nL bT kF pF a a8 L_186171 f_186172 := ⟨tc, w, q, I, hW, hT, hQ, hZ, hE, hw2, hw7, hq2, hq7, ha, ha8, hL9, hBT⟩
  have Y := Y.swap
  refine lv_pop hx hb dL_law_1102 rfl ?_
  refine lv_aload_n hx hb dL_law_1103 rfl (lv_at hl 1 rfl) ?_
  refine lv_aload_n hx hb dL_law_1104 rfl (lv_at hl 3 rfl) ?_
  refine lv_iload_n hx hb dL_law_1105 rfl (lv_at hl 0 rfl) ?_
  refine lv_iconst (v := 1) hx hb dL_law_1106 (by decide) ?_
  refine lv_iadd hx hb dL_law_1107 ?_
  refine lv_topi (fun x_186174 ex_186174 => ?_)
  refine va_sld hx hb hX hbl hbA Y.2.2 (law_in ex_186174 hi hL (by decide)) dL_law_1108 ?_
  refine lv_fold (z := v1) ((law_rd ex_186174 hi hL (by decide)).trans ev1.symm) ?_
  refine lv_aload_n hx hb dL_law_1109 rfl (lv_at hl 3 rfl) ?_
  refine lv_iload_n hx hb dL_law_1110 rfl (lv_at hl 0 rfl) ?_
  refine lv_iconst (v := 2) hx hb dL_law_1111 (by decide) ?_
  refine lv_iadd hx hb dL_law_1112 ?_
  refine lv_topi (fun x_186175 ex_186175 => ?_)
  refine va_sld hx hb hX hbl hbA Y.2.2 (law_in ex_186175 hi hL (by decide)) dL_law_1113 ?_
  refine lv_fold (z := v2) ((law_rd ex_186175 hi hL (by decide)).trans ev2.symm) ?_
  refine lv_aload_n hx hb dL_law_1114 rfl (lv_at hl 3 rfl) ?_
  refine lv_iload_n hx hb dL_law_1115 rfl (lv_at hl 0 rfl) ?_
  refine lv_iconst (v := 3) hx hb dL_law_1116 (by decide) ?_
  refine lv_iadd hx hb dL_law_1117 ?_
  refine lv_topi (fun x_186176 ex_186176 => ?_)
  refine va_sld hx hb hX hbl hbA Y.2.2 (law_in ex_186176 hi hL (by decide)) dL_law_1118 ?_
  refine lv_fold (z := v3) ((law_rd ex_186176 hi hL (by decide)).trans ev3.symm) ?_
  obtain ⟨wm, wm2, g0, I, hB, hB2, hX0, ew1, ew2, ha, ha8, hL9, hBT⟩ := hM
  refine cVp (As := [.int v1, .int v2, .int v3]) (rest := []) S Y (x_X12_forged (l := l) I hB hX0) cw_X12_forged kmL_140 (I.opo (k := 0) (j := 0) (by decide) rfl).choose_spec.1 ok_X12.1 rfl rfl ⟨Nat.le_of_ble_eq_true rfl, Nat.le_of_ble_eq_true rfl⟩ hl.1 rfl (Nat.le_of_ble_eq_true rfl) ⟨Nat.le_of_ble_eq_true rfl, Nat.le_of_ble_eq_true rfl⟩ dL_law_1119 (fun r_186177 H locs er_186177 Y => ?_)
  have hM : MI G adm nL bT kF pF a a8 Lm fm := ⟨wm, wm2, g0, I, hB, hB2, hX0, ew1, ew2, ha, ha8, hL9, hBT⟩
  refine lv_pop hx hb dL_law_1122 rfl ?_
  refine lv_goto (tgt := 1526) hx hb dL_law_1123 (by decide) ?_
  exact tail _ _ _ _ _ _ _ _ _ _ _ _ _ hC hM Y hl
set_option maxHeartbeats 4000000 in
set_option maxRecDepth 100000 in
theorem law_30 {p : Program} {e : Env} {s : State} {m : MethodId} {below : List Frame} {meth : Method} {c : Code} (l : Launch) {b L : Nat} {xs : Nat → Int32} (C0 : lw_At p s m meth c b L xs) (hL : L ≤ 3072) {G : GG} {A : Nat → Prop} (hAe : A = (fun q : Nat => s.heap.size ≤ q)) (S : SX G A p s m meth c RL code 4 ret) {aK aV : Nat → Nat} {z0 : Option Nat} (hz : ZS aK aV z0 A s s.heap) {adx adm : Nat → Nat → Nat} {i : Int32} (hi : 0 ≤ i.toInt ∧ i.toInt + 6 ≤ (L : Int)) {nL : Int} {bT : Nat → Int32} {kF pF a a8 : Int} {Lx Lm : List Nat} {fx fm : HF} {H : Heap} {locs : List Loc} {ls : Array Slot} (hC : CI G adx nL bT kF pF a a8 Lx fx) (hM : MI G adm nL bT kF pF a a8 Lm fm) (Y : DY G A s (va_pl Lx fx) Lm fm H locs) (hl : lv_has ls 4 [(3, .int i), (2, .ref (adm 0 0)), (1, .ref (adx 0 0)), (0, .ref b)]) (tail : ∀ (nL : Int) (bT : Nat → Int32) (kF pF a a8 : Int) (Lx Lm : List Nat) (fx fm : HF) (H : Heap) (locs : List Loc) (ls : Array Slot), CI G adx nL bT kF pF a a8 Lx fx → MI G adm nL bT kF pF a a8 Lm fm → DY G A s (va_pl Lx fx) Lm fm H locs → lv_has ls 4 [(3, .int i), (2, .ref (adm 0 0)), (1, .ref (adx 0 0)), (0, .ref b)] → W p l e room_1 s m #[Value.ref b] below meth c H locs 1000 60000 (lw_Z below #[Value.ref b] s) (F0 m 1526 ls [])) : W p l e room_1 s m #[Value.ref b] below meth c H locs 1000 60000 (lw_Z below #[Value.ref b] s) (F0 m 1126 ls []) := by
  obtain ⟨hx, hb, hr, hml, hown, hts, hX, hbl, hlocks, hgv⟩ := id C0
  have hbA : ¬ A b := by rw [hAe]; exact Nat.not_le.mpr hbl
  refine lv_aload_n hx hb dL_law_1126 rfl (lv_at hl 2 rfl) ?_
  refine lv_aload_n hx hb dL_law_1127 rfl (lv_at hl 3 rfl) ?_
  refine lv_iload_n hx hb dL_law_1128 rfl (lv_at hl 0 rfl) ?_
  refine lv_iconst (v := 1) hx hb dL_law_1129 (by decide) ?_
  refine lv_iadd hx hb dL_law_1130 ?_
  refine lv_topi (fun x_186178 ex_186178 => ?_)
  obtain ⟨v1, ev1⟩ : ∃ z, z = xs (i.toInt.toNat + (1 : Int32).toInt.toNat) := ⟨_, rfl⟩
  refine va_sld hx hb hX hbl hbA Y.2.2 (law_in ex_186178 hi hL (by decide)) dL_law_1131 ?_
  refine lv_fold (z := v1) ((law_rd ex_186178 hi hL (by decide)).trans ev1.symm) ?_
  refine lv_aload_n hx hb dL_law_1132 rfl (lv_at hl 3 rfl) ?_
  refine lv_iload_n hx hb dL_law_1133 rfl (lv_at hl 0 rfl) ?_
  refine lv_iconst (v := 2) hx hb dL_law_1134 (by decide) ?_
  refine lv_iadd hx hb dL_law_1135 ?_
  refine lv_topi (fun x_186179 ex_186179 => ?_)
  obtain ⟨v2, ev2⟩ : ∃ z, z = xs (i.toInt.toNat + (2 : Int32).toInt.toNat) := ⟨_, rfl⟩
  refine va_sld hx hb hX hbl hbA Y.2.2 (law_in ex_186179 hi hL (by decide)) dL_law_1136 ?_
  refine lv_fold (z := v2) ((law_rd ex_186179 hi hL (by decide)).trans ev2.symm) ?_
  have Y := Y.swap
  obtain ⟨tc, w, q, I, hW, hT, hQ, hZ, hE, hw2, hw7, hq2, hq7, ha, ha8, hL9, hBT⟩ := hC
  refine cVi (As := [.int v1, .int v2]) (rest := []) S Y (x_X11_word (l := l) I hW hT hQ hZ hE hw2 hq2) cw_X11_word kmL_141 (I.opo (k := 0) (j := 0) (by decide) rfl).choose_spec.1 ok_X11.1 rfl rfl ⟨Nat.le_of_ble_eq_true rfl, Nat.le_of_ble_eq_true rfl⟩ hl.1 rfl (Nat.le_of_ble_eq_true rfl) ⟨Nat.le_of_ble_eq_true rfl, Nat.le_of_ble_eq_true rfl⟩ dL_law_1137 (fun r_186180 L_186181 f_186182 H locs h_186183 Y => ?_)
  obtain ⟨w2, er_186180, I, e1, e2, eW⟩ := h_186183
  have hC : CI G adx nL bT kF pF a a8 L_186181 f_186182 := ⟨tc, w2, q, I, eW, hT, hQ, (ZZ_2 hZ e2), hE, e1, (by rw [e2 7 (by decide)]; exact hw7), hq2, hq7, ha, ha8, hL9, hBT⟩
  have Y := Y.swap
  refine lv_pop hx hb dL_law_1140 rfl ?_
  refine lv_aload_n hx hb dL_law_1141 rfl (lv_at hl 1 rfl) ?_
  refine lv_aload_n hx hb dL_law_1142 rfl (lv_at hl 3 rfl) ?_
  refine lv_iload_n hx hb dL_law_1143 rfl (lv_at hl 0 rfl) ?_
  refine lv_iconst (v := 1) hx hb dL_law_1144 (by decide) ?_
  refine lv_iadd hx hb dL_law_1145 ?_
  refine lv_topi (fun x_186184 ex_186184 => ?_)
  refine va_sld hx hb hX hbl hbA Y.2.2 (law_in ex_186184 hi hL (by decide)) dL_law_1146 ?_
  refine lv_fold (z := v1) ((law_rd ex_186184 hi hL (by decide)).trans ev1.symm) ?_
  refine lv_aload_n hx hb dL_law_1147 rfl (lv_at hl 3 rfl) ?_
  refine lv_iload_n hx hb dL_law_1148 rfl (lv_at hl 0 rfl) ?_
  refine lv_iconst (v := 2) hx hb dL_law_1149 (by decide) ?_
  refine lv_iadd hx hb dL_law_1150 ?_
  refine lv_topi (fun x_186185 ex_186185 => ?_)
  refine va_sld hx hb hX hbl hbA Y.2.2 (law_in ex_186185 hi hL (by decide)) dL_law_1151 ?_
  refine lv_fold (z := v2) ((law_rd ex_186185 hi hL (by decide)).trans ev2.symm) ?_
  obtain ⟨wm, wm2, g0, I, hB, hB2, hX0, ew1, ew2, ha, ha8, hL9, hBT⟩ := hM
  refine cVi (As := [.int v1, .int v2]) (rest := []) S Y (x_X12_word (l := l) I hB hX0 ew1) cw_X12_word kmL_144 (I.opo (k := 0) (j := 0) (by decide) rfl).choose_spec.1 ok_X12.1 rfl rfl ⟨Nat.le_of_ble_eq_true rfl, Nat.le_of_ble_eq_true rfl⟩ hl.1 rfl (Nat.le_of_ble_eq_true rfl) ⟨Nat.le_of_ble_eq_true rfl, Nat.le_of_ble_eq_true rfl⟩ dL_law_1152 (fun r_186186 L_186187 f_186188 H locs h_186189 Y => ?_)
  obtain ⟨w2m, er_186186, I, e1, eB⟩ := h_186189
  have hM : MI G adm nL bT kF pF a a8 L_186187 f_186188 := ⟨w2m, wm2, g0, I, eB, hB2, hX0, e1, ew2, (by rw [wdX_1 er_186186]; exact ha), ha8, hL9, hBT⟩
  refine lv_pop hx hb dL_law_1155 rfl ?_
  refine lv_goto (tgt := 1526) hx hb dL_law_1156 (by decide) ?_
  exact tail _ _ _ _ _ _ _ _ _ _ _ _ _ hC hM Y hl
set_option maxHeartbeats 4000000 in
set_option maxRecDepth 100000 in
theorem law_31 {p : Program} {e : Env} {s : State} {m : MethodId} {below : List Frame} {meth : Method} {c : Code} (l : Launch) {b L : Nat} {xs : Nat → Int32} (C0 : lw_At p s m meth c b L xs) (hL : L ≤ 3072) {G : GG} {A : Nat → Prop} (hAe : A = (fun q : Nat => s.heap.size ≤ q)) (S : SX G A p s m meth c RL code 4 ret) {aK aV : Nat → Nat} {z0 : Option Nat} (hz : ZS aK aV z0 A s s.heap) {adx adm : Nat → Nat → Nat} {i : Int32} (hi : 0 ≤ i.toInt ∧ i.toInt + 6 ≤ (L : Int)) {nL : Int} {bT : Nat → Int32} {kF pF a a8 : Int} {Lx Lm : List Nat} {fx fm : HF} {H : Heap} {locs : List Loc} {ls : Array Slot} (hC : CI G adx nL bT kF pF a a8 Lx fx) (hM : MI G adm nL bT kF pF a a8 Lm fm) (Y : DY G A s (va_pl Lx fx) Lm fm H locs) (hl : lv_has ls 4 [(3, .int i), (2, .ref (adm 0 0)), (1, .ref (adx 0 0)), (0, .ref b)]) (tail : ∀ (nL : Int) (bT : Nat → Int32) (kF pF a a8 : Int) (Lx Lm : List Nat) (fx fm : HF) (H : Heap) (locs : List Loc) (ls : Array Slot), CI G adx nL bT kF pF a a8 Lx fx → MI G adm nL bT kF pF a a8 Lm fm → DY G A s (va_pl Lx fx) Lm fm H locs → lv_has ls 4 [(3, .int i), (2, .ref (adm 0 0)), (1, .ref (adx 0 0)), (0, .ref b)] → W p l e room_1 s m #[Value.ref b] below meth c H locs 1000 60000 (lw_Z below #[Value.ref b] s) (F0 m 1526 ls [])) : W p l e room_1 s m #[Value.ref b] below meth c H locs 1000 60000 (lw_Z below #[Value.ref b] s) (F0 m 1159 ls []) := by
  obtain ⟨hx, hb, hr, hml, hown, hts, hX, hbl, hlocks, hgv⟩ := id C0
  have hbA : ¬ A b := by rw [hAe]; exact Nat.not_le.mpr hbl
  refine lv_aload_n hx hb dL_law_1159 rfl (lv_at hl 2 rfl) ?_
  refine lv_aload_n hx hb dL_law_1160 rfl (lv_at hl 3 rfl) ?_
  refine lv_iload_n hx hb dL_law_1161 rfl (lv_at hl 0 rfl) ?_
  refine lv_iconst (v := 1) hx hb dL_law_1162 (by decide) ?_
  refine lv_iadd hx hb dL_law_1163 ?_
  refine lv_topi (fun x_186190 ex_186190 => ?_)
  obtain ⟨v1, ev1⟩ : ∃ z, z = xs (i.toInt.toNat + (1 : Int32).toInt.toNat) := ⟨_, rfl⟩
  refine va_sld hx hb hX hbl hbA Y.2.2 (law_in ex_186190 hi hL (by decide)) dL_law_1164 ?_
  refine lv_fold (z := v1) ((law_rd ex_186190 hi hL (by decide)).trans ev1.symm) ?_
  have Y := Y.swap
  obtain ⟨tc, w, q, I, hW, hT, hQ, hZ, hE, hw2, hw7, hq2, hq7, ha, ha8, hL9, hBT⟩ := hC
  refine cVi (As := [.int v1]) (rest := []) S Y (x_X11_inTime (l := l) I hW hT hQ hZ hE) cw_X11_inTime kmL_145 (I.opo (k := 0) (j := 0) (by decide) rfl).choose_spec.1 ok_X11.1 rfl rfl ⟨Nat.le_of_ble_eq_true rfl, Nat.le_of_ble_eq_true rfl⟩ hl.1 rfl (Nat.le_of_ble_eq_true rfl) ⟨Nat.le_of_ble_eq_true rfl, Nat.le_of_ble_eq_true rfl⟩ dL_law_1165 (fun r_186191 L_186192 f_186193 H locs h_186194 Y => ?_)
  have I := h_186194
  have hC : CI G adx nL bT kF pF a a8 L_186192 f_186193 := ⟨tc, w, q, I, hW, hT, hQ, hZ, hE, hw2, hw7, hq2, hq7, ha, ha8, hL9, hBT⟩
  have Y := Y.swap
  refine lv_pop hx hb dL_law_1168 rfl ?_
  refine lv_aload_n hx hb dL_law_1169 rfl (lv_at hl 1 rfl) ?_
  refine lv_aload_n hx hb dL_law_1170 rfl (lv_at hl 3 rfl) ?_
  refine lv_iload_n hx hb dL_law_1171 rfl (lv_at hl 0 rfl) ?_
  refine lv_iconst (v := 1) hx hb dL_law_1172 (by decide) ?_
  refine lv_iadd hx hb dL_law_1173 ?_
  refine lv_topi (fun x_186195 ex_186195 => ?_)
  refine va_sld hx hb hX hbl hbA Y.2.2 (law_in ex_186195 hi hL (by decide)) dL_law_1174 ?_
  refine lv_fold (z := v1) ((law_rd ex_186195 hi hL (by decide)).trans ev1.symm) ?_
  obtain ⟨wm, wm2, g0, I, hB, hB2, hX0, ew1, ew2, ha, ha8, hL9, hBT⟩ := hM
  refine cVp (As := [.int v1]) (rest := []) S Y (x_X12_inTime (l := l) I hB hX0) cw_X12_inTime kmL_148 (I.opo (k := 0) (j := 0) (by decide) rfl).choose_spec.1 ok_X12.1 rfl rfl ⟨Nat.le_of_ble_eq_true rfl, Nat.le_of_ble_eq_true rfl⟩ hl.1 rfl (Nat.le_of_ble_eq_true rfl) ⟨Nat.le_of_ble_eq_true rfl, Nat.le_of_ble_eq_true rfl⟩ dL_law_1175 (fun r_186196 H locs er_186196 Y => ?_)
  have hM : MI G adm nL bT kF pF a a8 Lm fm := ⟨wm, wm2, g0, I, hB, hB2, hX0, ew1, ew2, ha, ha8, hL9, hBT⟩
  refine lv_pop hx hb dL_law_1178 rfl ?_
  refine lv_goto (tgt := 1526) hx hb dL_law_1179 (by decide) ?_
  exact tail _ _ _ _ _ _ _ _ _ _ _ _ _ hC hM Y hl
set_option maxHeartbeats 4000000 in
set_option maxRecDepth 100000 in
theorem law_32 {p : Program} {e : Env} {s : State} {m : MethodId} {below : List Frame} {meth : Method} {c : Code} (l : Launch) {b L : Nat} {xs : Nat → Int32} (C0 : lw_At p s m meth c b L xs) (hL : L ≤ 3072) {G : GG} {A : Nat → Prop} (hAe : A = (fun q : Nat => s.heap.size ≤ q)) (S : SX G A p s m meth c RL code 4 ret) {aK aV : Nat → Nat} {z0 : Option Nat} (hz : ZS aK aV z0 A s s.heap) {adx adm : Nat → Nat → Nat} {i : Int32} (hi : 0 ≤ i.toInt ∧ i.toInt + 6 ≤ (L : Int)) {nL : Int} {bT : Nat → Int32} {kF pF a a8 : Int} {Lx Lm : List Nat} {fx fm : HF} {H : Heap} {locs : List Loc} {ls : Array Slot} (hC : CI G adx nL bT kF pF a a8 Lx fx) (hM : MI G adm nL bT kF pF a a8 Lm fm) (Y : DY G A s (va_pl Lx fx) Lm fm H locs) (hl : lv_has ls 4 [(3, .int i), (2, .ref (adm 0 0)), (1, .ref (adx 0 0)), (0, .ref b)]) (tail : ∀ (nL : Int) (bT : Nat → Int32) (kF pF a a8 : Int) (Lx Lm : List Nat) (fx fm : HF) (H : Heap) (locs : List Loc) (ls : Array Slot), CI G adx nL bT kF pF a a8 Lx fx → MI G adm nL bT kF pF a a8 Lm fm → DY G A s (va_pl Lx fx) Lm fm H locs → lv_has ls 4 [(3, .int i), (2, .ref (adm 0 0)), (1, .ref (adx 0 0)), (0, .ref b)] → W p l e room_1 s m #[Value.ref b] below meth c H locs 1000 60000 (lw_Z below #[Value.ref b] s) (F0 m 1526 ls [])) : W p l e room_1 s m #[Value.ref b] below meth c H locs 1000 60000 (lw_Z below #[Value.ref b] s) (F0 m 1182 ls []) := by
  obtain ⟨hx, hb, hr, hml, hown, hts, hX, hbl, hlocks, hgv⟩ := id C0
  have hbA : ¬ A b := by rw [hAe]; exact Nat.not_le.mpr hbl
  refine lv_aload_n hx hb dL_law_1182 rfl (lv_at hl 2 rfl) ?_
  refine lv_aload_n hx hb dL_law_1183 rfl (lv_at hl 3 rfl) ?_
  refine lv_iload_n hx hb dL_law_1184 rfl (lv_at hl 0 rfl) ?_
  refine lv_iconst (v := 1) hx hb dL_law_1185 (by decide) ?_
  refine lv_iadd hx hb dL_law_1186 ?_
  refine lv_topi (fun x_186197 ex_186197 => ?_)
  obtain ⟨v1, ev1⟩ : ∃ z, z = xs (i.toInt.toNat + (1 : Int32).toInt.toNat) := ⟨_, rfl⟩
  refine va_sld hx hb hX hbl hbA Y.2.2 (law_in ex_186197 hi hL (by decide)) dL_law_1187 ?_
  refine lv_fold (z := v1) ((law_rd ex_186197 hi hL (by decide)).trans ev1.symm) ?_
  have Y := Y.swap
  obtain ⟨tc, w, q, I, hW, hT, hQ, hZ, hE, hw2, hw7, hq2, hq7, ha, ha8, hL9, hBT⟩ := hC
  refine cVi (As := [.int v1]) (rest := []) S Y (x_X11_whom (l := l) I hW hT hQ hZ hE) cw_X11_whom kmL_149 (I.opo (k := 0) (j := 0) (by decide) rfl).choose_spec.1 ok_X11.1 rfl rfl ⟨Nat.le_of_ble_eq_true rfl, Nat.le_of_ble_eq_true rfl⟩ hl.1 rfl (Nat.le_of_ble_eq_true rfl) ⟨Nat.le_of_ble_eq_true rfl, Nat.le_of_ble_eq_true rfl⟩ dL_law_1188 (fun r_186198 L_186199 f_186200 H locs h_186201 Y => ?_)
  have I := h_186201
  have hC : CI G adx nL bT kF pF a a8 L_186199 f_186200 := ⟨tc, w, q, I, hW, hT, hQ, hZ, hE, hw2, hw7, hq2, hq7, ha, ha8, hL9, hBT⟩
  have Y := Y.swap
  refine lv_pop hx hb dL_law_1191 rfl ?_
  refine lv_aload_n hx hb dL_law_1192 rfl (lv_at hl 1 rfl) ?_
  refine lv_aload_n hx hb dL_law_1193 rfl (lv_at hl 3 rfl) ?_
  refine lv_iload_n hx hb dL_law_1194 rfl (lv_at hl 0 rfl) ?_
  refine lv_iconst (v := 1) hx hb dL_law_1195 (by decide) ?_
  refine lv_iadd hx hb dL_law_1196 ?_
  refine lv_topi (fun x_186202 ex_186202 => ?_)
  refine va_sld hx hb hX hbl hbA Y.2.2 (law_in ex_186202 hi hL (by decide)) dL_law_1197 ?_
  refine lv_fold (z := v1) ((law_rd ex_186202 hi hL (by decide)).trans ev1.symm) ?_
  obtain ⟨wm, wm2, g0, I, hB, hB2, hX0, ew1, ew2, ha, ha8, hL9, hBT⟩ := hM
  refine cVi (As := [.int v1]) (rest := []) S Y (x_X12_whom (l := l) I hB hX0) cw_X12_whom kmL_152 (I.opo (k := 0) (j := 0) (by decide) rfl).choose_spec.1 ok_X12.1 rfl rfl ⟨Nat.le_of_ble_eq_true rfl, Nat.le_of_ble_eq_true rfl⟩ hl.1 rfl (Nat.le_of_ble_eq_true rfl) ⟨Nat.le_of_ble_eq_true rfl, Nat.le_of_ble_eq_true rfl⟩ dL_law_1198 (fun r_186203 L_186204 f_186205 H locs h_186206 Y => ?_)
  have I := h_186206
  have hM : MI G adm nL bT kF pF a a8 L_186204 f_186205 := ⟨wm, wm2, g0, I, hB, hB2, hX0, ew1, ew2, ha, ha8, hL9, hBT⟩
  refine lv_pop hx hb dL_law_1201 rfl ?_
  refine lv_goto (tgt := 1526) hx hb dL_law_1202 (by decide) ?_
  exact tail _ _ _ _ _ _ _ _ _ _ _ _ _ hC hM Y hl
set_option maxHeartbeats 4000000 in
set_option maxRecDepth 100000 in
theorem law_33 {p : Program} {e : Env} {s : State} {m : MethodId} {below : List Frame} {meth : Method} {c : Code} (l : Launch) {b L : Nat} {xs : Nat → Int32} (C0 : lw_At p s m meth c b L xs) (hL : L ≤ 3072) {G : GG} {A : Nat → Prop} (hAe : A = (fun q : Nat => s.heap.size ≤ q)) (S : SX G A p s m meth c RL code 4 ret) {aK aV : Nat → Nat} {z0 : Option Nat} (hz : ZS aK aV z0 A s s.heap) {adx adm : Nat → Nat → Nat} {i : Int32} (hi : 0 ≤ i.toInt ∧ i.toInt + 6 ≤ (L : Int)) {nL : Int} {bT : Nat → Int32} {kF pF a a8 : Int} {Lx Lm : List Nat} {fx fm : HF} {H : Heap} {locs : List Loc} {ls : Array Slot} (hC : CI G adx nL bT kF pF a a8 Lx fx) (hM : MI G adm nL bT kF pF a a8 Lm fm) (Y : DY G A s (va_pl Lx fx) Lm fm H locs) (hl : lv_has ls 4 [(3, .int i), (2, .ref (adm 0 0)), (1, .ref (adx 0 0)), (0, .ref b)]) (tail : ∀ (nL : Int) (bT : Nat → Int32) (kF pF a a8 : Int) (Lx Lm : List Nat) (fx fm : HF) (H : Heap) (locs : List Loc) (ls : Array Slot), CI G adx nL bT kF pF a a8 Lx fx → MI G adm nL bT kF pF a a8 Lm fm → DY G A s (va_pl Lx fx) Lm fm H locs → lv_has ls 4 [(3, .int i), (2, .ref (adm 0 0)), (1, .ref (adx 0 0)), (0, .ref b)] → W p l e room_1 s m #[Value.ref b] below meth c H locs 1000 60000 (lw_Z below #[Value.ref b] s) (F0 m 1526 ls [])) : W p l e room_1 s m #[Value.ref b] below meth c H locs 1000 60000 (lw_Z below #[Value.ref b] s) (F0 m 1205 ls []) := by
  obtain ⟨hx, hb, hr, hml, hown, hts, hX, hbl, hlocks, hgv⟩ := id C0
  have hbA : ¬ A b := by rw [hAe]; exact Nat.not_le.mpr hbl
  refine lv_aload_n hx hb dL_law_1205 rfl (lv_at hl 2 rfl) ?_
  have Y := Y.swap
  obtain ⟨tc, w, q, I, hW, hT, hQ, hZ, hE, hw2, hw7, hq2, hq7, ha, ha8, hL9, hBT⟩ := hC
  refine cVi (As := []) (rest := []) S Y (x_X11_ring (l := l) I hW hT hQ hZ hE) cw_X11_ring kmL_153 (I.opo (k := 0) (j := 0) (by decide) rfl).choose_spec.1 ok_X11.1 rfl rfl ⟨Nat.le_of_ble_eq_true rfl, Nat.le_of_ble_eq_true rfl⟩ hl.1 rfl (Nat.le_of_ble_eq_true rfl) ⟨Nat.le_of_ble_eq_true rfl, Nat.le_of_ble_eq_true rfl⟩ dL_law_1206 (fun r_186207 L_186208 f_186209 H locs h_186210 Y => ?_)
  have I := h_186210
  have hC : CI G adx nL bT kF pF a a8 L_186208 f_186209 := ⟨tc, w, q, I, hW, hT, hQ, hZ, hE, hw2, hw7, hq2, hq7, ha, ha8, hL9, hBT⟩
  have Y := Y.swap
  refine lv_pop hx hb dL_law_1209 rfl ?_
  refine lv_aload_n hx hb dL_law_1210 rfl (lv_at hl 1 rfl) ?_
  obtain ⟨wm, wm2, g0, I, hB, hB2, hX0, ew1, ew2, ha, ha8, hL9, hBT⟩ := hM
  refine cVp (As := []) (rest := []) S Y (x_X12_ring (l := l) I hB hX0) cw_X12_ring kmL_156 (I.opo (k := 0) (j := 0) (by decide) rfl).choose_spec.1 ok_X12.1 rfl rfl ⟨Nat.le_of_ble_eq_true rfl, Nat.le_of_ble_eq_true rfl⟩ hl.1 rfl (Nat.le_of_ble_eq_true rfl) ⟨Nat.le_of_ble_eq_true rfl, Nat.le_of_ble_eq_true rfl⟩ dL_law_1211 (fun r_186211 H locs er_186211 Y => ?_)
  have hM : MI G adm nL bT kF pF a a8 Lm fm := ⟨wm, wm2, g0, I, hB, hB2, hX0, ew1, ew2, ha, ha8, hL9, hBT⟩
  refine lv_pop hx hb dL_law_1214 rfl ?_
  refine lv_goto (tgt := 1526) hx hb dL_law_1215 (by decide) ?_
  exact tail _ _ _ _ _ _ _ _ _ _ _ _ _ hC hM Y hl
set_option maxHeartbeats 4000000 in
set_option maxRecDepth 100000 in
theorem law_34 {p : Program} {e : Env} {s : State} {m : MethodId} {below : List Frame} {meth : Method} {c : Code} (l : Launch) {b L : Nat} {xs : Nat → Int32} (C0 : lw_At p s m meth c b L xs) (hL : L ≤ 3072) {G : GG} {A : Nat → Prop} (hAe : A = (fun q : Nat => s.heap.size ≤ q)) (S : SX G A p s m meth c RL code 4 ret) {aK aV : Nat → Nat} {z0 : Option Nat} (hz : ZS aK aV z0 A s s.heap) {adx adm : Nat → Nat → Nat} {i : Int32} (hi : 0 ≤ i.toInt ∧ i.toInt + 6 ≤ (L : Int)) {nL : Int} {bT : Nat → Int32} {kF pF a a8 : Int} {Lx Lm : List Nat} {fx fm : HF} {H : Heap} {locs : List Loc} {ls : Array Slot} (hC : CI G adx nL bT kF pF a a8 Lx fx) (hM : MI G adm nL bT kF pF a a8 Lm fm) (Y : DY G A s (va_pl Lx fx) Lm fm H locs) (hl : lv_has ls 4 [(3, .int i), (2, .ref (adm 0 0)), (1, .ref (adx 0 0)), (0, .ref b)]) (tail : ∀ (nL : Int) (bT : Nat → Int32) (kF pF a a8 : Int) (Lx Lm : List Nat) (fx fm : HF) (H : Heap) (locs : List Loc) (ls : Array Slot), CI G adx nL bT kF pF a a8 Lx fx → MI G adm nL bT kF pF a a8 Lm fm → DY G A s (va_pl Lx fx) Lm fm H locs → lv_has ls 4 [(3, .int i), (2, .ref (adm 0 0)), (1, .ref (adx 0 0)), (0, .ref b)] → W p l e room_1 s m #[Value.ref b] below meth c H locs 1000 60000 (lw_Z below #[Value.ref b] s) (F0 m 1526 ls [])) : W p l e room_1 s m #[Value.ref b] below meth c H locs 1000 60000 (lw_Z below #[Value.ref b] s) (F0 m 1218 ls []) := by
  obtain ⟨hx, hb, hr, hml, hown, hts, hX, hbl, hlocks, hgv⟩ := id C0
  have hbA : ¬ A b := by rw [hAe]; exact Nat.not_le.mpr hbl
  refine lv_aload_n hx hb dL_law_1218 rfl (lv_at hl 2 rfl) ?_
  have Y := Y.swap
  obtain ⟨tc, w, q, I, hW, hT, hQ, hZ, hE, hw2, hw7, hq2, hq7, ha, ha8, hL9, hBT⟩ := hC
  refine cVi (As := []) (rest := []) S Y (x_X11_allSeen (l := l) I hW hT hQ hZ hE) cw_X11_allSeen kmL_157 (I.opo (k := 0) (j := 0) (by decide) rfl).choose_spec.1 ok_X11.1 rfl rfl ⟨Nat.le_of_ble_eq_true rfl, Nat.le_of_ble_eq_true rfl⟩ hl.1 rfl (Nat.le_of_ble_eq_true rfl) ⟨Nat.le_of_ble_eq_true rfl, Nat.le_of_ble_eq_true rfl⟩ dL_law_1219 (fun r_186212 L_186213 f_186214 H locs h_186215 Y => ?_)
  have I := h_186215
  have hC : CI G adx nL bT kF pF a a8 L_186213 f_186214 := ⟨tc, w, q, I, hW, hT, hQ, hZ, hE, hw2, hw7, hq2, hq7, ha, ha8, hL9, hBT⟩
  have Y := Y.swap
  refine lv_pop hx hb dL_law_1222 rfl ?_
  refine lv_aload_n hx hb dL_law_1223 rfl (lv_at hl 1 rfl) ?_
  obtain ⟨wm, wm2, g0, I, hB, hB2, hX0, ew1, ew2, ha, ha8, hL9, hBT⟩ := hM
  refine cVi (As := []) (rest := []) S Y (x_X12_allSeen (l := l) I hB hX0) cw_X12_allSeen kmL_160 (I.opo (k := 0) (j := 0) (by decide) rfl).choose_spec.1 ok_X12.1 rfl rfl ⟨Nat.le_of_ble_eq_true rfl, Nat.le_of_ble_eq_true rfl⟩ hl.1 rfl (Nat.le_of_ble_eq_true rfl) ⟨Nat.le_of_ble_eq_true rfl, Nat.le_of_ble_eq_true rfl⟩ dL_law_1224 (fun r_186216 L_186217 f_186218 H locs h_186219 Y => ?_)
  have I := h_186219
  have hM : MI G adm nL bT kF pF a a8 L_186217 f_186218 := ⟨wm, wm2, g0, I, hB, hB2, hX0, ew1, ew2, ha, ha8, hL9, hBT⟩
  refine lv_pop hx hb dL_law_1227 rfl ?_
  refine lv_goto (tgt := 1526) hx hb dL_law_1228 (by decide) ?_
  exact tail _ _ _ _ _ _ _ _ _ _ _ _ _ hC hM Y hl
set_option maxHeartbeats 4000000 in
set_option maxRecDepth 100000 in
theorem law_35 {p : Program} {e : Env} {s : State} {m : MethodId} {below : List Frame} {meth : Method} {c : Code} (l : Launch) {b L : Nat} {xs : Nat → Int32} (C0 : lw_At p s m meth c b L xs) (hL : L ≤ 3072) {G : GG} {A : Nat → Prop} (hAe : A = (fun q : Nat => s.heap.size ≤ q)) (S : SX G A p s m meth c RL code 4 ret) {aK aV : Nat → Nat} {z0 : Option Nat} (hz : ZS aK aV z0 A s s.heap) {adx adm : Nat → Nat → Nat} {i : Int32} (hi : 0 ≤ i.toInt ∧ i.toInt + 6 ≤ (L : Int)) {nL : Int} {bT : Nat → Int32} {kF pF a a8 : Int} {Lx Lm : List Nat} {fx fm : HF} {H : Heap} {locs : List Loc} {ls : Array Slot} (hC : CI G adx nL bT kF pF a a8 Lx fx) (hM : MI G adm nL bT kF pF a a8 Lm fm) (Y : DY G A s (va_pl Lx fx) Lm fm H locs) (hl : lv_has ls 4 [(3, .int i), (2, .ref (adm 0 0)), (1, .ref (adx 0 0)), (0, .ref b)]) (tail : ∀ (nL : Int) (bT : Nat → Int32) (kF pF a a8 : Int) (Lx Lm : List Nat) (fx fm : HF) (H : Heap) (locs : List Loc) (ls : Array Slot), CI G adx nL bT kF pF a a8 Lx fx → MI G adm nL bT kF pF a a8 Lm fm → DY G A s (va_pl Lx fx) Lm fm H locs → lv_has ls 4 [(3, .int i), (2, .ref (adm 0 0)), (1, .ref (adx 0 0)), (0, .ref b)] → W p l e room_1 s m #[Value.ref b] below meth c H locs 1000 60000 (lw_Z below #[Value.ref b] s) (F0 m 1526 ls [])) : W p l e room_1 s m #[Value.ref b] below meth c H locs 1000 60000 (lw_Z below #[Value.ref b] s) (F0 m 1231 ls []) := by
  obtain ⟨hx, hb, hr, hml, hown, hts, hX, hbl, hlocks, hgv⟩ := id C0
  have hbA : ¬ A b := by rw [hAe]; exact Nat.not_le.mpr hbl
  refine lv_aload_n hx hb dL_law_1231 rfl (lv_at hl 2 rfl) ?_
  refine lv_aload_n hx hb dL_law_1232 rfl (lv_at hl 3 rfl) ?_
  refine lv_iload_n hx hb dL_law_1233 rfl (lv_at hl 0 rfl) ?_
  refine lv_iconst (v := 1) hx hb dL_law_1234 (by decide) ?_
  refine lv_iadd hx hb dL_law_1235 ?_
  refine lv_topi (fun x_186220 ex_186220 => ?_)
  obtain ⟨v1, ev1⟩ : ∃ z, z = xs (i.toInt.toNat + (1 : Int32).toInt.toNat) := ⟨_, rfl⟩
  refine va_sld hx hb hX hbl hbA Y.2.2 (law_in ex_186220 hi hL (by decide)) dL_law_1236 ?_
  refine lv_fold (z := v1) ((law_rd ex_186220 hi hL (by decide)).trans ev1.symm) ?_
  refine lv_aload_n hx hb dL_law_1237 rfl (lv_at hl 3 rfl) ?_
  refine lv_iload_n hx hb dL_law_1238 rfl (lv_at hl 0 rfl) ?_
  refine lv_iconst (v := 2) hx hb dL_law_1239 (by decide) ?_
  refine lv_iadd hx hb dL_law_1240 ?_
  refine lv_topi (fun x_186221 ex_186221 => ?_)
  obtain ⟨v2, ev2⟩ : ∃ z, z = xs (i.toInt.toNat + (2 : Int32).toInt.toNat) := ⟨_, rfl⟩
  refine va_sld hx hb hX hbl hbA Y.2.2 (law_in ex_186221 hi hL (by decide)) dL_law_1241 ?_
  refine lv_fold (z := v2) ((law_rd ex_186221 hi hL (by decide)).trans ev2.symm) ?_
  have Y := Y.swap
  obtain ⟨tc, w, q, I, hW, hT, hQ, hZ, hE, hw2, hw7, hq2, hq7, ha, ha8, hL9, hBT⟩ := hC
  refine cVi (As := [.int v1, .int v2]) (rest := []) S Y (x_X11_saw (l := l) I hW hT hQ hZ hE) cw_X11_saw kmL_161 (I.opo (k := 0) (j := 0) (by decide) rfl).choose_spec.1 ok_X11.1 rfl rfl ⟨Nat.le_of_ble_eq_true rfl, Nat.le_of_ble_eq_true rfl⟩ hl.1 rfl (Nat.le_of_ble_eq_true rfl) ⟨Nat.le_of_ble_eq_true rfl, Nat.le_of_ble_eq_true rfl⟩ dL_law_1242 (fun r_186222 L_186223 f_186224 H locs h_186225 Y => ?_)
  have I := h_186225
  have hC : CI G adx nL bT kF pF a a8 L_186223 f_186224 := ⟨tc, w, q, I, hW, hT, hQ, hZ, hE, hw2, hw7, hq2, hq7, ha, ha8, hL9, hBT⟩
  have Y := Y.swap
  refine lv_pop hx hb dL_law_1245 rfl ?_
  refine lv_aload_n hx hb dL_law_1246 rfl (lv_at hl 1 rfl) ?_
  refine lv_aload_n hx hb dL_law_1247 rfl (lv_at hl 3 rfl) ?_
  refine lv_iload_n hx hb dL_law_1248 rfl (lv_at hl 0 rfl) ?_
  refine lv_iconst (v := 1) hx hb dL_law_1249 (by decide) ?_
  refine lv_iadd hx hb dL_law_1250 ?_
  refine lv_topi (fun x_186226 ex_186226 => ?_)
  refine va_sld hx hb hX hbl hbA Y.2.2 (law_in ex_186226 hi hL (by decide)) dL_law_1251 ?_
  refine lv_fold (z := v1) ((law_rd ex_186226 hi hL (by decide)).trans ev1.symm) ?_
  refine lv_aload_n hx hb dL_law_1252 rfl (lv_at hl 3 rfl) ?_
  refine lv_iload_n hx hb dL_law_1253 rfl (lv_at hl 0 rfl) ?_
  refine lv_iconst (v := 2) hx hb dL_law_1254 (by decide) ?_
  refine lv_iadd hx hb dL_law_1255 ?_
  refine lv_topi (fun x_186227 ex_186227 => ?_)
  refine va_sld hx hb hX hbl hbA Y.2.2 (law_in ex_186227 hi hL (by decide)) dL_law_1256 ?_
  refine lv_fold (z := v2) ((law_rd ex_186227 hi hL (by decide)).trans ev2.symm) ?_
  obtain ⟨wm, wm2, g0, I, hB, hB2, hX0, ew1, ew2, ha, ha8, hL9, hBT⟩ := hM
  refine cVi (As := [.int v1, .int v2]) (rest := []) S Y (x_X12_saw (l := l) I hB hX0) cw_X12_saw kmL_164 (I.opo (k := 0) (j := 0) (by decide) rfl).choose_spec.1 ok_X12.1 rfl rfl ⟨Nat.le_of_ble_eq_true rfl, Nat.le_of_ble_eq_true rfl⟩ hl.1 rfl (Nat.le_of_ble_eq_true rfl) ⟨Nat.le_of_ble_eq_true rfl, Nat.le_of_ble_eq_true rfl⟩ dL_law_1257 (fun r_186228 L_186229 f_186230 H locs h_186231 Y => ?_)
  have I := h_186231
  have hM : MI G adm nL bT kF pF a a8 L_186229 f_186230 := ⟨wm, wm2, g0, I, hB, hB2, hX0, ew1, ew2, ha, ha8, hL9, hBT⟩
  refine lv_pop hx hb dL_law_1260 rfl ?_
  refine lv_goto (tgt := 1526) hx hb dL_law_1261 (by decide) ?_
  exact tail _ _ _ _ _ _ _ _ _ _ _ _ _ hC hM Y hl
