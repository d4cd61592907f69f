theorem dL_law_935 : decode cL_law 935 = .ok (.iadd, 1) := by decide +kernel
theorem dL_law_936 : decode cL_law 936 = .ok (.iaload, 1) := by decide +kernel
theorem dL_law_937 : decode cL_law 937 = .ok (.aload_n 0, 1) := by decide +kernel
theorem dL_law_938 : decode cL_law 938 = .ok (.iload_n 3, 1) := by decide +kernel
theorem dL_law_939 : decode cL_law 939 = .ok (.iconst 2, 1) := by decide +kernel
theorem dL_law_940 : decode cL_law 940 = .ok (.iadd, 1) := by decide +kernel
theorem dL_law_941 : decode cL_law 941 = .ok (.iaload, 1) := by decide +kernel
theorem dL_law_942 : decode cL_law 942 = .ok (.invokevirtual 126, 3) := by decide +kernel
theorem dX11_step_0 : decode cX11_step 0 = .ok (.iload_n 1, 1) := by decide +kernel
theorem dX11_step_1 : decode cX11_step 1 = .ok (.ifCond .lt 23, 3) := by decide +kernel
theorem dX11_step_24 : decode cX11_step 24 = .ok (.ldc 175, 2) := by decide +kernel
theorem dX11_step_26 : decode cX11_step 26 = .ok (.ireturn, 1) := by decide +kernel
theorem dX11_step_4 : decode cX11_step 4 = .ok (.iload_n 1, 1) := by decide +kernel
theorem dX11_step_5 : decode cX11_step 5 = .ok (.aload_n 0, 1) := by decide +kernel
theorem dX11_step_6 : decode cX11_step 6 = .ok (.getfield 76, 3) := by decide +kernel
theorem dX11_step_9 : decode cX11_step 9 = .ok (.getfield 163, 3) := by decide +kernel
theorem dX11_step_12 : decode cX11_step 12 = .ok (.if_icmp .ge 12, 3) := by decide +kernel
theorem dL_law_945 : decode cL_law 945 = .ok (.aload_n 2, 1) := by decide +kernel
theorem dL_law_946 : decode cL_law 946 = .ok (.aload_n 0, 1) := by decide +kernel
theorem dL_law_947 : decode cL_law 947 = .ok (.iload_n 3, 1) := by decide +kernel
theorem dL_law_948 : decode cL_law 948 = .ok (.iconst 1, 1) := by decide +kernel
theorem dL_law_949 : decode cL_law 949 = .ok (.iadd, 1) := by decide +kernel
theorem dL_law_950 : decode cL_law 950 = .ok (.iaload, 1) := by decide +kernel
theorem dL_law_951 : decode cL_law 951 = .ok (.aload_n 0, 1) := by decide +kernel
theorem dL_law_952 : decode cL_law 952 = .ok (.iload_n 3, 1) := by decide +kernel
theorem dL_law_953 : decode cL_law 953 = .ok (.iconst 2, 1) := by decide +kernel
theorem dL_law_954 : decode cL_law 954 = .ok (.iadd, 1) := by decide +kernel
theorem dL_law_955 : decode cL_law 955 = .ok (.iaload, 1) := by decide +kernel
theorem dL_law_956 : decode cL_law 956 = .ok (.invokevirtual 129, 3) := by decide +kernel
theorem dX12_step_0 : decode cX12_step 0 = .ok (.iload_n 1, 1) := by decide +kernel
theorem dX12_step_1 : decode cX12_step 1 = .ok (.i2l, 1) := by decide +kernel
theorem dX12_step_2 : decode cX12_step 2 = .ok (.lconst 0, 1) := by decide +kernel
theorem dX12_step_3 : decode cX12_step 3 = .ok (.aload_n 0, 1) := by decide +kernel
theorem dX12_step_4 : decode cX12_step 4 = .ok (.getfield 352, 3) := by decide +kernel
theorem dX12_step_7 : decode cX12_step 7 = .ok (.iconst 1, 1) := by decide +kernel
theorem dX12_step_8 : decode cX12_step 8 = .ok (.isub, 1) := by decide +kernel
theorem dX12_step_9 : decode cX12_step 9 = .ok (.i2l, 1) := by decide +kernel
theorem dX12_step_10 : decode cX12_step 10 = .ok (.invokestatic 191, 3) := by decide +kernel
theorem dX12_step_13 : decode cX12_step 13 = .ok (.ifCond .eq 15, 3) := by decide +kernel
theorem dX12_step_28 : decode cX12_step 28 = .ok (.ldc_w 364, 3) := by decide +kernel
theorem dX12_step_31 : decode cX12_step 31 = .ok (.ireturn, 1) := by decide +kernel
theorem dL_law_959 : decode cL_law 959 = .ok (.if_icmp .eq 573, 3) := by decide +kernel
theorem dL_law_964 : decode cL_law 964 = .ok (.aload_n 1, 1) := by decide +kernel
theorem dL_law_965 : decode cL_law 965 = .ok (.aload_n 0, 1) := by decide +kernel
theorem dL_law_966 : decode cL_law 966 = .ok (.iload_n 3, 1) := by decide +kernel
theorem dL_law_967 : decode cL_law 967 = .ok (.iconst 1, 1) := by decide +kernel
theorem dL_law_968 : decode cL_law 968 = .ok (.iadd, 1) := by decide +kernel
theorem dL_law_969 : decode cL_law 969 = .ok (.iaload, 1) := by decide +kernel
theorem dL_law_970 : decode cL_law 970 = .ok (.aload_n 0, 1) := by decide +kernel
theorem dL_law_971 : decode cL_law 971 = .ok (.iload_n 3, 1) := by decide +kernel
theorem dL_law_972 : decode cL_law 972 = .ok (.iconst 2, 1) := by decide +kernel
theorem dL_law_973 : decode cL_law 973 = .ok (.iadd, 1) := by decide +kernel
theorem dL_law_974 : decode cL_law 974 = .ok (.iaload, 1) := by decide +kernel
theorem dL_law_975 : decode cL_law 975 = .ok (.aload_n 0, 1) := by decide +kernel
theorem dL_law_976 : decode cL_law 976 = .ok (.iload_n 3, 1) := by decide +kernel
theorem dL_law_977 : decode cL_law 977 = .ok (.iconst 3, 1) := by decide +kernel
theorem dL_law_978 : decode cL_law 978 = .ok (.iadd, 1) := by decide +kernel
theorem dL_law_979 : decode cL_law 979 = .ok (.iaload, 1) := by decide +kernel
theorem dL_law_980 : decode cL_law 980 = .ok (.ifCond .eq 7, 3) := by decide +kernel
theorem dL_law_987 : decode cL_law 987 = .ok (.iconst 0, 1) := by decide +kernel
theorem dL_law_988 : decode cL_law 988 = .ok (.invokevirtual 130, 3) := by decide +kernel
theorem dX11_clash_0 : decode cX11_clash 0 = .ok (.aload_n 0, 1) := by decide +kernel
theorem dX11_clash_1 : decode cX11_clash 1 = .ok (.getfield 69, 3) := by decide +kernel
theorem dX11_clash_4 : decode cX11_clash 4 = .ok (.iload_n 1, 1) := by decide +kernel
theorem dX11_clash_5 : decode cX11_clash 5 = .ok (.invokevirtual 172, 3) := by decide +kernel
theorem dX11_clash_8 : decode cX11_clash 8 = .ok (.ifCond .eq 19, 3) := by decide +kernel
theorem dX11_clash_27 : decode cX11_clash 27 = .ok (.iconst (-1), 1) := by decide +kernel
theorem dX11_clash_28 : decode cX11_clash 28 = .ok (.ireturn, 1) := by decide +kernel
theorem dL_law_991 : decode cL_law 991 = .ok (.aload_n 2, 1) := by decide +kernel
theorem dL_law_992 : decode cL_law 992 = .ok (.aload_n 0, 1) := by decide +kernel
theorem dL_law_993 : decode cL_law 993 = .ok (.iload_n 3, 1) := by decide +kernel
theorem dL_law_994 : decode cL_law 994 = .ok (.iconst 1, 1) := by decide +kernel
theorem dL_law_995 : decode cL_law 995 = .ok (.iadd, 1) := by decide +kernel
theorem dL_law_996 : decode cL_law 996 = .ok (.iaload, 1) := by decide +kernel
theorem dL_law_997 : decode cL_law 997 = .ok (.aload_n 0, 1) := by decide +kernel
theorem dL_law_998 : decode cL_law 998 = .ok (.iload_n 3, 1) := by decide +kernel
theorem dL_law_999 : decode cL_law 999 = .ok (.iconst 2, 1) := by decide +kernel
theorem dL_law_1000 : decode cL_law 1000 = .ok (.iadd, 1) := by decide +kernel
theorem dL_law_1001 : decode cL_law 1001 = .ok (.iaload, 1) := by decide +kernel
theorem dL_law_1002 : decode cL_law 1002 = .ok (.aload_n 0, 1) := by decide +kernel
theorem dL_law_1003 : decode cL_law 1003 = .ok (.iload_n 3, 1) := by decide +kernel
theorem dL_law_1004 : decode cL_law 1004 = .ok (.iconst 3, 1) := by decide +kernel
theorem dL_law_1005 : decode cL_law 1005 = .ok (.iadd, 1) := by decide +kernel
theorem dL_law_1006 : decode cL_law 1006 = .ok (.iaload, 1) := by decide +kernel
theorem dL_law_1007 : decode cL_law 1007 = .ok (.ifCond .eq 7, 3) := by decide +kernel
theorem dL_law_1014 : decode cL_law 1014 = .ok (.iconst 0, 1) := by decide +kernel
theorem dL_law_1015 : decode cL_law 1015 = .ok (.invokevirtual 133, 3) := by decide +kernel
theorem dX12_clash_0 : decode cX12_clash 0 = .ok (.aload_n 0, 1) := by decide +kernel
theorem dX12_clash_1 : decode cX12_clash 1 = .ok (.iload_n 1, 1) := by decide +kernel
theorem dX12_clash_2 : decode cX12_clash 2 = .ok (.invokevirtual 361, 3) := by decide +kernel
theorem dX12_clash_5 : decode cX12_clash 5 = .ok (.ifCond .eq 16, 3) := by decide +kernel
theorem dX12_clash_21 : decode cX12_clash 21 = .ok (.iconst (-1), 1) := by decide +kernel
theorem dX12_clash_22 : decode cX12_clash 22 = .ok (.ireturn, 1) := by decide +kernel
theorem dL_law_1018 : decode cL_law 1018 = .ok (.if_icmp .eq 514, 3) := by decide +kernel
theorem dL_law_983 : decode cL_law 983 = .ok (.iconst 1, 1) := by decide +kernel
theorem dL_law_984 : decode cL_law 984 = .ok (.goto 4, 3) := by decide +kernel
theorem dL_law_1010 : decode cL_law 1010 = .ok (.iconst 1, 1) := by decide +kernel
theorem dL_law_1011 : decode cL_law 1011 = .ok (.goto 4, 3) := by decide +kernel
theorem dL_law_1023 : decode cL_law 1023 = .ok (.aload_n 1, 1) := by decide +kernel
theorem dL_law_1024 : decode cL_law 1024 = .ok (.aload_n 0, 1) := by decide +kernel
theorem dL_law_1025 : decode cL_law 1025 = .ok (.iload_n 3, 1) := by decide +kernel
theorem dL_law_1026 : decode cL_law 1026 = .ok (.iconst 1, 1) := by decide +kernel
theorem dL_law_1027 : decode cL_law 1027 = .ok (.iadd, 1) := by decide +kernel
theorem dL_law_1028 : decode cL_law 1028 = .ok (.iaload, 1) := by decide +kernel
theorem dL_law_1029 : decode cL_law 1029 = .ok (.ifCond .eq 7, 3) := by decide +kernel
theorem dL_law_1036 : decode cL_law 1036 = .ok (.iconst 0, 1) := by decide +kernel
theorem dL_law_1037 : decode cL_law 1037 = .ok (.invokevirtual 134, 3) := by decide +kernel
theorem dX11_worst_0 : decode cX11_worst 0 = .ok (.aload_n 0, 1) := by decide +kernel
theorem dX11_worst_1 : decode cX11_worst 1 = .ok (.iload_n 1, 1) := by decide +kernel
theorem dX11_worst_2 : decode cX11_worst 2 = .ok (.invokevirtual 176, 3) := by decide +kernel
theorem dX11_tableBy_0 : decode cX11_tableBy 0 = .ok (.iload_n 1, 1) := by decide +kernel
theorem dX11_tableBy_1 : decode cX11_tableBy 1 = .ok (.ifCond .eq 13, 3) := by decide +kernel
theorem dX11_tableBy_14 : decode cX11_tableBy 14 = .ok (.aload_n 0, 1) := by decide +kernel
theorem dX11_tableBy_15 : decode cX11_tableBy 15 = .ok (.getfield 69, 3) := by decide +kernel
theorem dX11_tableBy_18 : decode cX11_tableBy 18 = .ok (.getfield 193, 3) := by decide +kernel
theorem dX11_tableBy_21 : decode cX11_tableBy 21 = .ok (.areturn, 1) := by decide +kernel
theorem dX11_worst_5 : decode cX11_worst 5 = .ok (.aload_n 0, 1) := by decide +kernel
theorem dX11_worst_6 : decode cX11_worst 6 = .ok (.getfield 69, 3) := by decide +kernel
theorem dX11_worst_9 : decode cX11_worst 9 = .ok (.getfield 136, 3) := by decide +kernel
theorem dX11_worst_12 : decode cX11_worst 12 = .ok (.invokevirtual 316, 3) := by decide +kernel
theorem dX8_worstPair_0 : decode cX8_worstPair 0 = .ok (.iconst (-1), 1) := by decide +kernel
theorem dX8_worstPair_1 : decode cX8_worstPair 1 = .ok (.istore_n 2, 1) := by decide +kernel
theorem dX8_worstPair_2 : decode cX8_worstPair 2 = .ok (.iconst (-1), 1) := by decide +kernel
theorem dX8_worstPair_3 : decode cX8_worstPair 3 = .ok (.istore_n 3, 1) := by decide +kernel
theorem dX8_worstPair_4 : decode cX8_worstPair 4 = .ok (.iconst 0, 1) := by decide +kernel
theorem dX8_worstPair_5 : decode cX8_worstPair 5 = .ok (.istore 4, 2) := by decide +kernel
theorem dX8_worstPair_7 : decode cX8_worstPair 7 = .ok (.iload 4, 2) := by decide +kernel
theorem dX8_worstPair_9 : decode cX8_worstPair 9 = .ok (.iload_n 1, 1) := by decide +kernel
theorem dX8_worstPair_10 : decode cX8_worstPair 10 = .ok (.if_icmp .ge 55, 3) := by decide +kernel
theorem dX8_worstPair_65 : decode cX8_worstPair 65 = .ok (.iload_n 2, 1) := by decide +kernel
theorem dX8_worstPair_66 : decode cX8_worstPair 66 = .ok (.ireturn, 1) := by decide +kernel
theorem dX11_worst_15 : decode cX11_worst 15 = .ok (.ireturn, 1) := by decide +kernel
theorem dL_law_1040 : decode cL_law 1040 = .ok (.aload_n 2, 1) := by decide +kernel
theorem dL_law_1041 : decode cL_law 1041 = .ok (.aload_n 0, 1) := by decide +kernel
theorem dL_law_1042 : decode cL_law 1042 = .ok (.iload_n 3, 1) := by decide +kernel
theorem dL_law_1043 : decode cL_law 1043 = .ok (.iconst 1, 1) := by decide +kernel
theorem dL_law_1044 : decode cL_law 1044 = .ok (.iadd, 1) := by decide +kernel
theorem dL_law_1045 : decode cL_law 1045 = .ok (.iaload, 1) := by decide +kernel
theorem dL_law_1046 : decode cL_law 1046 = .ok (.ifCond .eq 7, 3) := by decide +kernel
theorem dL_law_1053 : decode cL_law 1053 = .ok (.iconst 0, 1) := by decide +kernel
theorem dL_law_1054 : decode cL_law 1054 = .ok (.invokevirtual 138, 3) := by decide +kernel
theorem dX12_worst_0 : decode cX12_worst 0 = .ok (.iconst (-1), 1) := by decide +kernel
theorem dX12_worst_1 : decode cX12_worst 1 = .ok (.istore_n 2, 1) := by decide +kernel
theorem dX12_worst_2 : decode cX12_worst 2 = .ok (.iconst (-1), 1) := by decide +kernel
theorem dX12_worst_3 : decode cX12_worst 3 = .ok (.istore_n 3, 1) := by decide +kernel
theorem dX12_worst_4 : decode cX12_worst 4 = .ok (.iconst 0, 1) := by decide +kernel
theorem dX12_worst_5 : decode cX12_worst 5 = .ok (.istore 4, 2) := by decide +kernel
theorem dX12_worst_7 : decode cX12_worst 7 = .ok (.iload 4, 2) := by decide +kernel
theorem dX12_worst_9 : decode cX12_worst 9 = .ok (.aload_n 0, 1) := by decide +kernel
theorem dX12_worst_10 : decode cX12_worst 10 = .ok (.getfield 237, 3) := by decide +kernel
theorem dX12_worst_13 : decode cX12_worst 13 = .ok (.if_icmp .ge 84, 3) := by decide +kernel
theorem dX12_worst_97 : decode cX12_worst 97 = .ok (.iload_n 2, 1) := by decide +kernel
theorem dX12_worst_98 : decode cX12_worst 98 = .ok (.ireturn, 1) := by decide +kernel
theorem dL_law_1057 : decode cL_law 1057 = .ok (.if_icmp .eq 475, 3) := by decide +kernel
theorem dL_law_1032 : decode cL_law 1032 = .ok (.iconst 1, 1) := by decide +kernel
theorem dL_law_1033 : decode cL_law 1033 = .ok (.goto 4, 3) := by decide +kernel
theorem dX11_tableBy_4 : decode cX11_tableBy 4 = .ok (.aload_n 0, 1) := by decide +kernel
theorem dX11_tableBy_5 : decode cX11_tableBy 5 = .ok (.getfield 76, 3) := by decide +kernel
theorem dX11_tableBy_8 : decode cX11_tableBy 8 = .ok (.getfield 189, 3) := by decide +kernel
theorem dX11_tableBy_11 : decode cX11_tableBy 11 = .ok (.goto 10, 3) := by decide +kernel
theorem dL_law_1049 : decode cL_law 1049 = .ok (.iconst 1, 1) := by decide +kernel
theorem dL_law_1050 : decode cL_law 1050 = .ok (.goto 4, 3) := by decide +kernel
theorem dL_law_1062 : decode cL_law 1062 = .ok (.aload_n 1, 1) := by decide +kernel
theorem dL_law_1063 : decode cL_law 1063 = .ok (.aload_n 0, 1) := by decide +kernel
theorem dL_law_1064 : decode cL_law 1064 = .ok (.iload_n 3, 1) := by decide +kernel
theorem dL_law_1065 : decode cL_law 1065 = .ok (.iconst 1, 1) := by decide +kernel
theorem dL_law_1066 : decode cL_law 1066 = .ok (.iadd, 1) := by decide +kernel
theorem dL_law_1067 : decode cL_law 1067 = .ok (.iaload, 1) := by decide +kernel
theorem dL_law_1068 : decode cL_law 1068 = .ok (.ifCond .eq 7, 3) := by decide +kernel
theorem dL_law_1075 : decode cL_law 1075 = .ok (.iconst 0, 1) := by decide +kernel
theorem dL_law_1076 : decode cL_law 1076 = .ok (.invokevirtual 139, 3) := by decide +kernel
theorem dX11_squares_0 : decode cX11_squares 0 = .ok (.aload_n 0, 1) := by decide +kernel
theorem dX11_squares_1 : decode cX11_squares 1 = .ok (.iload_n 1, 1) := by decide +kernel
theorem dX11_squares_2 : decode cX11_squares 2 = .ok (.invokevirtual 176, 3) := by decide +kernel
theorem dX11_squares_5 : decode cX11_squares 5 = .ok (.invokevirtual 319, 3) := by decide +kernel
theorem dX8_allSquares_0 : decode cX8_allSquares 0 = .ok (.lconst 0, 1) := by decide +kernel
theorem dX8_allSquares_1 : decode cX8_allSquares 1 = .ok (.lstore_n 1, 1) := by decide +kernel
theorem dX8_allSquares_2 : decode cX8_allSquares 2 = .ok (.iconst 0, 1) := by decide +kernel
theorem dX8_allSquares_3 : decode cX8_allSquares 3 = .ok (.istore_n 3, 1) := by decide +kernel
theorem dX8_allSquares_4 : decode cX8_allSquares 4 = .ok (.iload_n 3, 1) := by decide +kernel
theorem dX8_allSquares_5 : decode cX8_allSquares 5 = .ok (.iconst 5, 1) := by decide +kernel
theorem dX8_allSquares_6 : decode cX8_allSquares 6 = .ok (.if_icmp .ge 19, 3) := by decide +kernel
theorem dX8_allSquares_9 : decode cX8_allSquares 9 = .ok (.lload_n 1, 1) := by decide +kernel
theorem dX8_allSquares_10 : decode cX8_allSquares 10 = .ok (.aload_n 0, 1) := by decide +kernel
theorem dX8_allSquares_11 : decode cX8_allSquares 11 = .ok (.iload_n 3, 1) := by decide +kernel
theorem dX8_allSquares_12 : decode cX8_allSquares 12 = .ok (.iload_n 3, 1) := by decide +kernel
theorem dX8_allSquares_13 : decode cX8_allSquares 13 = .ok (.invokevirtual 40, 3) := by decide +kernel
theorem dX8_productOf_0 : decode cX8_productOf 0 = .ok (.iconst 0, 1) := by decide +kernel
theorem dX8_productOf_1 : decode cX8_productOf 1 = .ok (.istore_n 3, 1) := by decide +kernel
theorem dX8_productOf_2 : decode cX8_productOf 2 = .ok (.iconst 0, 1) := by decide +kernel
theorem dX8_productOf_3 : decode cX8_productOf 3 = .ok (.istore 4, 2) := by decide +kernel
theorem dX8_productOf_5 : decode cX8_productOf 5 = .ok (.iload 4, 2) := by decide +kernel
theorem dX8_productOf_7 : decode cX8_productOf 7 = .ok (.bipush 6, 2) := by decide +kernel
theorem dX8_productOf_9 : decode cX8_productOf 9 = .ok (.if_icmp .ge 27, 3) := by decide +kernel
theorem dX8_productOf_12 : decode cX8_productOf 12 = .ok (.iload_n 3, 1) := by decide +kernel
theorem dX8_productOf_13 : decode cX8_productOf 13 = .ok (.aload_n 0, 1) := by decide +kernel
theorem dX8_productOf_14 : decode cX8_productOf 14 = .ok (.iload 4, 2) := by decide +kernel
theorem dX8_productOf_16 : decode cX8_productOf 16 = .ok (.iload_n 1, 1) := by decide +kernel
theorem dX8_productOf_17 : decode cX8_productOf 17 = .ok (.invokevirtual 27, 3) := by decide +kernel
theorem dX8_at_0 : decode cX8_at 0 = .ok (.aload_n 0, 1) := by decide +kernel
theorem dX8_at_1 : decode cX8_at 1 = .ok (.getfield 9, 3) := by decide +kernel
theorem dX8_at_4 : decode cX8_at 4 = .ok (.iload_n 2, 1) := by decide +kernel
theorem dX8_at_5 : decode cX8_at 5 = .ok (.bipush 6, 2) := by decide +kernel
theorem dX8_at_7 : decode cX8_at 7 = .ok (.imul, 1) := by decide +kernel
theorem dX8_at_8 : decode cX8_at 8 = .ok (.iload_n 1, 1) := by decide +kernel
theorem dX8_at_9 : decode cX8_at 9 = .ok (.iadd, 1) := by decide +kernel
theorem dX8_at_10 : decode cX8_at 10 = .ok (.iaload, 1) := by decide +kernel
theorem dX8_at_11 : decode cX8_at 11 = .ok (.ireturn, 1) := by decide +kernel
theorem dX8_productOf_20 : decode cX8_productOf 20 = .ok (.aload_n 0, 1) := by decide +kernel
theorem dX8_productOf_21 : decode cX8_productOf 21 = .ok (.iload 4, 2) := by decide +kernel
theorem dX8_productOf_23 : decode cX8_productOf 23 = .ok (.iload_n 2, 1) := by decide +kernel
theorem dX8_productOf_24 : decode cX8_productOf 24 = .ok (.invokevirtual 27, 3) := by decide +kernel
theorem dX8_productOf_27 : decode cX8_productOf 27 = .ok (.imul, 1) := by decide +kernel
theorem dX8_productOf_28 : decode cX8_productOf 28 = .ok (.iadd, 1) := by decide +kernel
theorem dX8_productOf_29 : decode cX8_productOf 29 = .ok (.istore_n 3, 1) := by decide +kernel
theorem dX8_productOf_30 : decode cX8_productOf 30 = .ok (.iinc 4 1, 3) := by decide +kernel
theorem dX8_productOf_33 : decode cX8_productOf 33 = .ok (.goto (-28), 3) := by decide +kernel
theorem dX8_productOf_36 : decode cX8_productOf 36 = .ok (.iload_n 3, 1) := by decide +kernel
theorem dX8_productOf_37 : decode cX8_productOf 37 = .ok (.ireturn, 1) := by decide +kernel
theorem dX8_allSquares_16 : decode cX8_allSquares 16 = .ok (.i2l, 1) := by decide +kernel
theorem dX8_allSquares_17 : decode cX8_allSquares 17 = .ok (.ladd, 1) := by decide +kernel
theorem dX8_allSquares_18 : decode cX8_allSquares 18 = .ok (.lstore_n 1, 1) := by decide +kernel
theorem dX8_allSquares_19 : decode cX8_allSquares 19 = .ok (.iinc 3 1, 3) := by decide +kernel
theorem dX8_allSquares_22 : decode cX8_allSquares 22 = .ok (.goto (-18), 3) := by decide +kernel
theorem dX8_allSquares_25 : decode cX8_allSquares 25 = .ok (.lload_n 1, 1) := by decide +kernel
theorem dX8_allSquares_26 : decode cX8_allSquares 26 = .ok (.lreturn, 1) := by decide +kernel
theorem dX11_squares_8 : decode cX11_squares 8 = .ok (.lreturn, 1) := by decide +kernel
theorem dL_law_1079 : decode cL_law 1079 = .ok (.aload_n 2, 1) := by decide +kernel
theorem dL_law_1080 : decode cL_law 1080 = .ok (.aload_n 0, 1) := by decide +kernel
theorem dL_law_1081 : decode cL_law 1081 = .ok (.iload_n 3, 1) := by decide +kernel
theorem dL_law_1082 : decode cL_law 1082 = .ok (.iconst 1, 1) := by decide +kernel
theorem dL_law_1083 : decode cL_law 1083 = .ok (.iadd, 1) := by decide +kernel
theorem dL_law_1084 : decode cL_law 1084 = .ok (.iaload, 1) := by decide +kernel
theorem dL_law_1085 : decode cL_law 1085 = .ok (.ifCond .eq 7, 3) := by decide +kernel
theorem dL_law_1092 : decode cL_law 1092 = .ok (.iconst 0, 1) := by decide +kernel
theorem dL_law_1093 : decode cL_law 1093 = .ok (.invokevirtual 143, 3) := by decide +kernel
theorem dX12_squares_0 : decode cX12_squares 0 = .ok (.lconst 0, 1) := by decide +kernel
theorem dX12_squares_1 : decode cX12_squares 1 = .ok (.lstore_n 2, 1) := by decide +kernel
theorem dX12_squares_2 : decode cX12_squares 2 = .ok (.iconst 0, 1) := by decide +kernel
theorem dX12_squares_3 : decode cX12_squares 3 = .ok (.istore 4, 2) := by decide +kernel
theorem dX12_squares_5 : decode cX12_squares 5 = .ok (.iload 4, 2) := by decide +kernel
theorem dX12_squares_7 : decode cX12_squares 7 = .ok (.aload_n 0, 1) := by decide +kernel
theorem dX12_squares_8 : decode cX12_squares 8 = .ok (.getfield 237, 3) := by decide +kernel
theorem dX12_squares_11 : decode cX12_squares 11 = .ok (.if_icmp .ge 45, 3) := by decide +kernel
theorem dX12_squares_56 : decode cX12_squares 56 = .ok (.lload_n 2, 1) := by decide +kernel
theorem dX12_squares_57 : decode cX12_squares 57 = .ok (.lreturn, 1) := by decide +kernel
theorem dL_law_1096 : decode cL_law 1096 = .ok (.lcmp, 1) := by decide +kernel
theorem dL_law_1097 : decode cL_law 1097 = .ok (.ifCond .eq 435, 3) := by decide +kernel
theorem dL_law_1071 : decode cL_law 1071 = .ok (.iconst 1, 1) := by decide +kernel
theorem dL_law_1072 : decode cL_law 1072 = .ok (.goto 4, 3) := by decide +kernel
theorem dL_law_1088 : decode cL_law 1088 = .ok (.iconst 1, 1) := by decide +kernel
theorem dL_law_1089 : decode cL_law 1089 = .ok (.goto 4, 3) := by decide +kernel
theorem dL_law_1102 : decode cL_law 1102 = .ok (.aload_n 1, 1) := by decide +kernel
theorem dL_law_1103 : decode cL_law 1103 = .ok (.aload_n 0, 1) := by decide +kernel
theorem dL_law_1104 : decode cL_law 1104 = .ok (.iload_n 3, 1) := by decide +kernel
theorem dL_law_1105 : decode cL_law 1105 = .ok (.iconst 1, 1) := by decide +kernel
theorem dL_law_1106 : decode cL_law 1106 = .ok (.iadd, 1) := by decide +kernel
theorem dL_law_1107 : decode cL_law 1107 = .ok (.iaload, 1) := by decide +kernel
theorem dL_law_1108 : decode cL_law 1108 = .ok (.aload_n 0, 1) := by decide +kernel
theorem dL_law_1109 : decode cL_law 1109 = .ok (.iload_n 3, 1) := by decide +kernel
theorem dL_law_1110 : decode cL_law 1110 = .ok (.iconst 2, 1) := by decide +kernel
theorem dL_law_1111 : decode cL_law 1111 = .ok (.iadd, 1) := by decide +kernel
theorem dL_law_1112 : decode cL_law 1112 = .ok (.iaload, 1) := by decide +kernel
theorem dL_law_1113 : decode cL_law 1113 = .ok (.aload_n 0, 1) := by decide +kernel
theorem dL_law_1114 : decode cL_law 1114 = .ok (.iload_n 3, 1) := by decide +kernel
theorem dL_law_1115 : decode cL_law 1115 = .ok (.iconst 3, 1) := by decide +kernel
theorem dL_law_1116 : decode cL_law 1116 = .ok (.iadd, 1) := by decide +kernel
theorem dL_law_1117 : decode cL_law 1117 = .ok (.iaload, 1) := by decide +kernel
theorem dL_law_1118 : decode cL_law 1118 = .ok (.invokevirtual 144, 3) := by decide +kernel
theorem dX11_sums_0 : decode cX11_sums 0 = .ok (.aload_n 0, 1) := by decide +kernel
theorem dX11_sums_1 : decode cX11_sums 1 = .ok (.getfield 69, 3) := by decide +kernel
theorem dX11_sums_4 : decode cX11_sums 4 = .ok (.iload_n 1, 1) := by decide +kernel
theorem dX11_sums_5 : decode cX11_sums 5 = .ok (.invokevirtual 323, 3) := by decide +kernel
theorem dX1_isSenderSet_0 : decode cX1_isSenderSet 0 = .ok (.iload_n 1, 1) := by decide +kernel
theorem dX1_isSenderSet_1 : decode cX1_isSenderSet 1 = .ok (.ifCond .le 17, 3) := by decide +kernel
theorem dX1_isSenderSet_18 : decode cX1_isSenderSet 18 = .ok (.iconst 0, 1) := by decide +kernel
theorem dX1_isSenderSet_19 : decode cX1_isSenderSet 19 = .ok (.ireturn, 1) := by decide +kernel
theorem dX1_isSenderSet_4 : decode cX1_isSenderSet 4 = .ok (.iload_n 1, 1) := by decide +kernel
theorem dX1_isSenderSet_5 : decode cX1_isSenderSet 5 = .ok (.iconst 1, 1) := by decide +kernel
theorem dX1_isSenderSet_6 : decode cX1_isSenderSet 6 = .ok (.aload_n 0, 1) := by decide +kernel
theorem dX1_isSenderSet_7 : decode cX1_isSenderSet 7 = .ok (.getfield 33, 3) := by decide +kernel
theorem dX1_isSenderSet_10 : decode cX1_isSenderSet 10 = .ok (.ishl, 1) := by decide +kernel
theorem dX1_isSenderSet_11 : decode cX1_isSenderSet 11 = .ok (.if_icmp .ge 7, 3) := by decide +kernel
theorem dX11_sums_8 : decode cX11_sums 8 = .ok (.ifCond .eq 29, 3) := by decide +kernel
theorem dX11_sums_37 : decode cX11_sums 37 = .ok (.ldc2_w 308, 3) := by decide +kernel
theorem dX11_sums_40 : decode cX11_sums 40 = .ok (.lreturn, 1) := by decide +kernel
theorem dL_law_1121 : decode cL_law 1121 = .ok (.aload_n 2, 1) := by decide +kernel
theorem dL_law_1122 : decode cL_law 1122 = .ok (.aload_n 0, 1) := by decide +kernel
theorem dL_law_1123 : decode cL_law 1123 = .ok (.iload_n 3, 1) := by decide +kernel
theorem dL_law_1124 : decode cL_law 1124 = .ok (.iconst 1, 1) := by decide +kernel
theorem dL_law_1125 : decode cL_law 1125 = .ok (.iadd, 1) := by decide +kernel
theorem dL_law_1126 : decode cL_law 1126 = .ok (.iaload, 1) := by decide +kernel
theorem dL_law_1127 : decode cL_law 1127 = .ok (.aload_n 0, 1) := by decide +kernel
theorem dL_law_1128 : decode cL_law 1128 = .ok (.iload_n 3, 1) := by decide +kernel
theorem dL_law_1129 : decode cL_law 1129 = .ok (.iconst 2, 1) := by decide +kernel
theorem dL_law_1130 : decode cL_law 1130 = .ok (.iadd, 1) := by decide +kernel
theorem dL_law_1131 : decode cL_law 1131 = .ok (.iaload, 1) := by decide +kernel
theorem dL_law_1132 : decode cL_law 1132 = .ok (.aload_n 0, 1) := by decide +kernel
theorem dL_law_1133 : decode cL_law 1133 = .ok (.iload_n 3, 1) := by decide +kernel
theorem dL_law_1134 : decode cL_law 1134 = .ok (.iconst 3, 1) := by decide +kernel
theorem dL_law_1135 : decode cL_law 1135 = .ok (.iadd, 1) := by decide +kernel
theorem dL_law_1136 : decode cL_law 1136 = .ok (.iaload, 1) := by decide +kernel
theorem dL_law_1137 : decode cL_law 1137 = .ok (.invokevirtual 148, 3) := by decide +kernel
theorem dX12_sums_0 : decode cX12_sums 0 = .ok (.aload_n 0, 1) := by decide +kernel
theorem dX12_sums_1 : decode cX12_sums 1 = .ok (.iload_n 1, 1) := by decide +kernel
theorem dX12_sums_2 : decode cX12_sums 2 = .ok (.invokevirtual 454, 3) := by decide +kernel
theorem dX12_areSenders_0 : decode cX12_areSenders 0 = .ok (.iload_n 1, 1) := by decide +kernel
theorem dX12_areSenders_1 : decode cX12_areSenders 1 = .ok (.i2l, 1) := by decide +kernel
theorem dX12_areSenders_2 : decode cX12_areSenders 2 = .ok (.lconst 0, 1) := by decide +kernel
theorem dX12_areSenders_3 : decode cX12_areSenders 3 = .ok (.iconst 1, 1) := by decide +kernel
theorem dX12_areSenders_4 : decode cX12_areSenders 4 = .ok (.aload_n 0, 1) := by decide +kernel
theorem dX12_areSenders_5 : decode cX12_areSenders 5 = .ok (.getfield 237, 3) := by decide +kernel
theorem dX12_areSenders_8 : decode cX12_areSenders 8 = .ok (.ishl, 1) := by decide +kernel
theorem dX12_areSenders_9 : decode cX12_areSenders 9 = .ok (.iconst 1, 1) := by decide +kernel
theorem dX12_areSenders_10 : decode cX12_areSenders 10 = .ok (.isub, 1) := by decide +kernel
theorem dX12_areSenders_11 : decode cX12_areSenders 11 = .ok (.i2l, 1) := by decide +kernel
theorem dX12_areSenders_12 : decode cX12_areSenders 12 = .ok (.invokestatic 191, 3) := by decide +kernel
theorem dX12_areSenders_15 : decode cX12_areSenders 15 = .ok (.ireturn, 1) := by decide +kernel
theorem dX12_sums_5 : decode cX12_sums 5 = .ok (.ifCond .eq 38, 3) := by decide +kernel
theorem dX12_sums_43 : decode cX12_sums 43 = .ok (.ldc2_w 445, 3) := by decide +kernel
theorem dX12_sums_46 : decode cX12_sums 46 = .ok (.lreturn, 1) := by decide +kernel
theorem dX12_sums_8 : decode cX12_sums 8 = .ok (.iload_n 2, 1) := by decide +kernel
theorem dX12_sums_9 : decode cX12_sums 9 = .ok (.i2l, 1) := by decide +kernel
theorem dX12_sums_10 : decode cX12_sums 10 = .ok (.lconst 1, 1) := by decide +kernel
theorem dX12_sums_11 : decode cX12_sums 11 = .ok (.ldc2_w 431, 3) := by decide +kernel
theorem dX12_sums_14 : decode cX12_sums 14 = .ok (.invokestatic 191, 3) := by decide +kernel
theorem dX12_sums_17 : decode cX12_sums 17 = .ok (.ifCond .eq 26, 3) := by decide +kernel
theorem dX12_sums_20 : decode cX12_sums 20 = .ok (.iload_n 3, 1) := by decide +kernel
theorem dX12_sums_21 : decode cX12_sums 21 = .ok (.iconst (-1), 1) := by decide +kernel
theorem dX12_sums_22 : decode cX12_sums 22 = .ok (.if_icmp .eq 11, 3) := by decide +kernel
theorem dX12_sums_33 : decode cX12_sums 33 = .ok (.aload_n 0, 1) := by decide +kernel
theorem dX12_sums_34 : decode cX12_sums 34 = .ok (.iload_n 1, 1) := by decide +kernel
theorem dX12_sums_35 : decode cX12_sums 35 = .ok (.iload_n 2, 1) := by decide +kernel
theorem dX12_sums_36 : decode cX12_sums 36 = .ok (.iconst 1, 1) := by decide +kernel
theorem dX12_sums_37 : decode cX12_sums 37 = .ok (.invokevirtual 457, 3) := by decide +kernel
theorem dX12_isLeast_0 : decode cX12_isLeast 0 = .ok (.aload_n 0, 1) := by decide +kernel
theorem dX12_isLeast_1 : decode cX12_isLeast 1 = .ok (.ldc2_w 384, 3) := by decide +kernel
theorem dX12_isLeast_4 : decode cX12_isLeast 4 = .ok (.putfield 447, 3) := by decide +kernel
theorem dX12_isLeast_7 : decode cX12_isLeast 7 = .ok (.iconst 0, 1) := by decide +kernel
theorem dX12_isLeast_8 : decode cX12_isLeast 8 = .ok (.istore 4, 2) := by decide +kernel
theorem dX12_isLeast_10 : decode cX12_isLeast 10 = .ok (.iload 4, 2) := by decide +kernel
theorem dX12_isLeast_12 : decode cX12_isLeast 12 = .ok (.aload_n 0, 1) := by decide +kernel
theorem dX12_isLeast_13 : decode cX12_isLeast 13 = .ok (.getfield 237, 3) := by decide +kernel
theorem dX12_isLeast_16 : decode cX12_isLeast 16 = .ok (.if_icmp .ge 32, 3) := by decide +kernel
theorem dX12_isLeast_48 : decode cX12_isLeast 48 = .ok (.iconst 1, 1) := by decide +kernel
theorem dX12_isLeast_49 : decode cX12_isLeast 49 = .ok (.istore 4, 2) := by decide +kernel
theorem dX12_isLeast_51 : decode cX12_isLeast 51 = .ok (.iload 4, 2) := by decide +kernel
theorem dX12_isLeast_53 : decode cX12_isLeast 53 = .ok (.ifCond .eq 136, 3) := by decide +kernel
theorem dX12_isLeast_56 : decode cX12_isLeast 56 = .ok (.iconst 1, 1) := by decide +kernel
theorem dX12_isLeast_57 : decode cX12_isLeast 57 = .ok (.istore 5, 2) := by decide +kernel
theorem dX12_isLeast_59 : decode cX12_isLeast 59 = .ok (.iconst 0, 1) := by decide +kernel
theorem dX12_isLeast_60 : decode cX12_isLeast 60 = .ok (.istore 6, 2) := by decide +kernel
theorem dX12_isLeast_62 : decode cX12_isLeast 62 = .ok (.iload 6, 2) := by decide +kernel
theorem dX12_isLeast_64 : decode cX12_isLeast 64 = .ok (.aload_n 0, 1) := by decide +kernel
theorem dX12_isLeast_65 : decode cX12_isLeast 65 = .ok (.getfield 237, 3) := by decide +kernel
theorem dX12_isLeast_68 : decode cX12_isLeast 68 = .ok (.if_icmp .ge 31, 3) := by decide +kernel
theorem dX12_isLeast_99 : decode cX12_isLeast 99 = .ok (.iload 5, 2) := by decide +kernel
theorem dX12_isLeast_101 : decode cX12_isLeast 101 = .ok (.ifCond .eq 7, 3) := by decide +kernel
theorem dX12_isLeast_104 : decode cX12_isLeast 104 = .ok (.lconst 0, 1) := by decide +kernel
theorem dX12_isLeast_105 : decode cX12_isLeast 105 = .ok (.goto 8, 3) := by decide +kernel
theorem dX12_isLeast_113 : decode cX12_isLeast 113 = .ok (.lstore 6, 2) := by decide +kernel
theorem dX12_isLeast_115 : decode cX12_isLeast 115 = .ok (.iload 5, 2) := by decide +kernel
theorem dX12_isLeast_117 : decode cX12_isLeast 117 = .ok (.ifCond .ne 60, 3) := by decide +kernel
theorem dX12_isLeast_177 : decode cX12_isLeast 177 = .ok (.aload_n 0, 1) := by decide +kernel
theorem dX12_isLeast_178 : decode cX12_isLeast 178 = .ok (.iload_n 1, 1) := by decide +kernel
theorem dX12_isLeast_179 : decode cX12_isLeast 179 = .ok (.iload_n 2, 1) := by decide +kernel
theorem dX12_isLeast_180 : decode cX12_isLeast 180 = .ok (.iload_n 3, 1) := by decide +kernel
theorem dX12_isLeast_181 : decode cX12_isLeast 181 = .ok (.invokevirtual 450, 3) := by decide +kernel
theorem dX12_isNext_0 : decode cX12_isNext 0 = .ok (.aload_n 0, 1) := by decide +kernel
theorem dX12_isNext_1 : decode cX12_isNext 1 = .ok (.getfield 237, 3) := by decide +kernel
theorem dX12_isNext_4 : decode cX12_isNext 4 = .ok (.iconst 1, 1) := by decide +kernel
theorem dX12_isNext_5 : decode cX12_isNext 5 = .ok (.isub, 1) := by decide +kernel
theorem dX12_isNext_6 : decode cX12_isNext 6 = .ok (.istore 4, 2) := by decide +kernel
theorem dX12_isNext_8 : decode cX12_isNext 8 = .ok (.iload 4, 2) := by decide +kernel
theorem dX12_isNext_10 : decode cX12_isNext 10 = .ok (.ifCond .lt 54, 3) := by decide +kernel
theorem dX12_isNext_64 : decode cX12_isNext 64 = .ok (.iconst 0, 1) := by decide +kernel
theorem dX12_isNext_65 : decode cX12_isNext 65 = .ok (.ireturn, 1) := by decide +kernel
theorem dX12_isLeast_184 : decode cX12_isLeast 184 = .ok (.istore 4, 2) := by decide +kernel
theorem dX12_isLeast_186 : decode cX12_isLeast 186 = .ok (.goto (-135), 3) := by decide +kernel
theorem dX12_isLeast_189 : decode cX12_isLeast 189 = .ok (.aload_n 0, 1) := by decide +kernel
theorem dX12_isLeast_190 : decode cX12_isLeast 190 = .ok (.getfield 447, 3) := by decide +kernel
theorem dX12_isLeast_193 : decode cX12_isLeast 193 = .ok (.lconst 0, 1) := by decide +kernel
theorem dX12_isLeast_194 : decode cX12_isLeast 194 = .ok (.lcmp, 1) := by decide +kernel
theorem dX12_isLeast_195 : decode cX12_isLeast 195 = .ok (.ifCond .lt 7, 3) := by decide +kernel
theorem dX12_isLeast_202 : decode cX12_isLeast 202 = .ok (.iconst 0, 1) := by decide +kernel
theorem dX12_isLeast_203 : decode cX12_isLeast 203 = .ok (.ireturn, 1) := by decide +kernel
theorem dX12_sums_40 : decode cX12_sums 40 = .ok (.ifCond .ne 7, 3) := by decide +kernel
theorem dX12_sums_25 : decode cX12_sums 25 = .ok (.aload_n 0, 1) := by decide +kernel
theorem dX12_sums_26 : decode cX12_sums 26 = .ok (.iload_n 3, 1) := by decide +kernel
theorem dX12_sums_27 : decode cX12_sums 27 = .ok (.invokevirtual 361, 3) := by decide +kernel
theorem dX12_sums_30 : decode cX12_sums 30 = .ok (.ifCond .eq 13, 3) := by decide +kernel
theorem dL_law_1140 : decode cL_law 1140 = .ok (.lcmp, 1) := by decide +kernel
theorem dL_law_1141 : decode cL_law 1141 = .ok (.ifCond .eq 391, 3) := by decide +kernel
theorem dL_law_1146 : decode cL_law 1146 = .ok (.aload_n 1, 1) := by decide +kernel
theorem dL_law_1147 : decode cL_law 1147 = .ok (.aload_n 0, 1) := by decide +kernel
theorem dL_law_1148 : decode cL_law 1148 = .ok (.iload_n 3, 1) := by decide +kernel
theorem dL_law_1149 : decode cL_law 1149 = .ok (.iconst 1, 1) := by decide +kernel
theorem dL_law_1150 : decode cL_law 1150 = .ok (.iadd, 1) := by decide +kernel
theorem dL_law_1151 : decode cL_law 1151 = .ok (.iaload, 1) := by decide +kernel
theorem dL_law_1152 : decode cL_law 1152 = .ok (.invokevirtual 149, 3) := by decide +kernel
