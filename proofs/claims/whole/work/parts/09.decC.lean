theorem d_TC_init_0 : decode prog_1_method_1_code 0 = .ok (.aload_n 0, 1) := by decide +kernel
theorem d_TC_init_1 : decode prog_1_method_1_code 1 = .ok (.invokespecial 3, 3) := by decide +kernel
theorem d_TC_init_4 : decode prog_1_method_1_code 4 = .ok (.new 9, 3) := by decide +kernel
theorem d_TC_init_7 : decode prog_1_method_1_code 7 = .ok (.dup, 1) := by decide +kernel
theorem d_TC_init_8 : decode prog_1_method_1_code 8 = .ok (.iconst 0, 1) := by decide +kernel
theorem d_TC_init_9 : decode prog_1_method_1_code 9 = .ok (.invokespecial 11, 3) := by decide +kernel
theorem d_TC_init_12 : decode prog_1_method_1_code 12 = .ok (.astore_n 1, 1) := by decide +kernel
theorem d_TC_init_13 : decode prog_1_method_1_code 13 = .ok (.new 14, 3) := by decide +kernel
theorem d_TC_init_16 : decode prog_1_method_1_code 16 = .ok (.dup, 1) := by decide +kernel
theorem d_TC_init_17 : decode prog_1_method_1_code 17 = .ok (.iconst 0, 1) := by decide +kernel
theorem d_TC_init_18 : decode prog_1_method_1_code 18 = .ok (.iconst 0, 1) := by decide +kernel
theorem d_TC_init_19 : decode prog_1_method_1_code 19 = .ok (.invokespecial 16, 3) := by decide +kernel
theorem d_TC_init_22 : decode prog_1_method_1_code 22 = .ok (.astore_n 2, 1) := by decide +kernel
theorem d_TC_init_23 : decode prog_1_method_1_code 23 = .ok (.aload_n 0, 1) := by decide +kernel
theorem d_TC_init_24 : decode prog_1_method_1_code 24 = .ok (.new 19, 3) := by decide +kernel
theorem d_TC_init_27 : decode prog_1_method_1_code 27 = .ok (.dup, 1) := by decide +kernel
theorem d_TC_init_28 : decode prog_1_method_1_code 28 = .ok (.aload_n 1, 1) := by decide +kernel
theorem d_TC_init_29 : decode prog_1_method_1_code 29 = .ok (.aload_n 2, 1) := by decide +kernel
theorem d_TC_init_30 : decode prog_1_method_1_code 30 = .ok (.invokespecial 21, 3) := by decide +kernel
theorem d_TC_init_33 : decode prog_1_method_1_code 33 = .ok (.putfield 24, 3) := by decide +kernel
theorem d_TC_init_36 : decode prog_1_method_1_code 36 = .ok (.aload_n 0, 1) := by decide +kernel
theorem d_TC_init_37 : decode prog_1_method_1_code 37 = .ok (.new 19, 3) := by decide +kernel
theorem d_TC_init_40 : decode prog_1_method_1_code 40 = .ok (.dup, 1) := by decide +kernel
theorem d_TC_init_41 : decode prog_1_method_1_code 41 = .ok (.aload_n 1, 1) := by decide +kernel
theorem d_TC_init_42 : decode prog_1_method_1_code 42 = .ok (.aload_n 2, 1) := by decide +kernel
theorem d_TC_init_43 : decode prog_1_method_1_code 43 = .ok (.invokespecial 21, 3) := by decide +kernel
theorem d_TC_init_46 : decode prog_1_method_1_code 46 = .ok (.putfield 30, 3) := by decide +kernel
theorem d_TC_init_49 : decode prog_1_method_1_code 49 = .ok (.aload_n 0, 1) := by decide +kernel
theorem d_TC_init_50 : decode prog_1_method_1_code 50 = .ok (.new 33, 3) := by decide +kernel
theorem d_TC_init_53 : decode prog_1_method_1_code 53 = .ok (.dup, 1) := by decide +kernel
theorem d_TC_init_54 : decode prog_1_method_1_code 54 = .ok (.new 19, 3) := by decide +kernel
theorem d_TC_init_57 : decode prog_1_method_1_code 57 = .ok (.dup, 1) := by decide +kernel
theorem d_TC_init_58 : decode prog_1_method_1_code 58 = .ok (.aload_n 1, 1) := by decide +kernel
theorem d_TC_init_59 : decode prog_1_method_1_code 59 = .ok (.aload_n 2, 1) := by decide +kernel
theorem d_TC_init_60 : decode prog_1_method_1_code 60 = .ok (.invokespecial 21, 3) := by decide +kernel
theorem d_TC_init_63 : decode prog_1_method_1_code 63 = .ok (.new 19, 3) := by decide +kernel
theorem d_TC_init_66 : decode prog_1_method_1_code 66 = .ok (.dup, 1) := by decide +kernel
theorem d_TC_init_67 : decode prog_1_method_1_code 67 = .ok (.aload_n 1, 1) := by decide +kernel
theorem d_TC_init_68 : decode prog_1_method_1_code 68 = .ok (.aload_n 2, 1) := by decide +kernel
theorem d_TC_init_69 : decode prog_1_method_1_code 69 = .ok (.invokespecial 21, 3) := by decide +kernel
theorem d_TC_init_72 : decode prog_1_method_1_code 72 = .ok (.invokespecial 35, 3) := by decide +kernel
theorem d_TC_init_75 : decode prog_1_method_1_code 75 = .ok (.putfield 38, 3) := by decide +kernel
theorem d_TC_init_78 : decode prog_1_method_1_code 78 = .ok (.aload_n 0, 1) := by decide +kernel
theorem d_TC_init_79 : decode prog_1_method_1_code 79 = .ok (.bipush 6, 2) := by decide +kernel
theorem d_TC_init_81 : decode prog_1_method_1_code 81 = .ok (.anewarray 9, 3) := by decide +kernel
theorem d_TC_init_84 : decode prog_1_method_1_code 84 = .ok (.putfield 42, 3) := by decide +kernel
theorem d_TC_init_87 : decode prog_1_method_1_code 87 = .ok (.aload_n 0, 1) := by decide +kernel
theorem d_TC_init_88 : decode prog_1_method_1_code 88 = .ok (.bipush 100, 2) := by decide +kernel
theorem d_TC_init_90 : decode prog_1_method_1_code 90 = .ok (.newarray .char, 2) := by decide +kernel
theorem d_TC_init_92 : decode prog_1_method_1_code 92 = .ok (.putfield 46, 3) := by decide +kernel
theorem d_TC_init_95 : decode prog_1_method_1_code 95 = .ok (.aload_n 0, 1) := by decide +kernel
theorem d_TC_init_96 : decode prog_1_method_1_code 96 = .ok (.bipush 6, 2) := by decide +kernel
theorem d_TC_init_98 : decode prog_1_method_1_code 98 = .ok (.anewarray 50, 3) := by decide +kernel
theorem d_TC_init_101 : decode prog_1_method_1_code 101 = .ok (.putfield 52, 3) := by decide +kernel
theorem d_TC_init_104 : decode prog_1_method_1_code 104 = .ok (.iconst 0, 1) := by decide +kernel
theorem d_TC_init_105 : decode prog_1_method_1_code 105 = .ok (.istore_n 3, 1) := by decide +kernel
theorem d_TC_init_106 : decode prog_1_method_1_code 106 = .ok (.iload_n 3, 1) := by decide +kernel
theorem d_TC_init_107 : decode prog_1_method_1_code 107 = .ok (.bipush 6, 2) := by decide +kernel
theorem d_TC_init_109 : decode prog_1_method_1_code 109 = .ok (.if_icmp .ge 22, 3) := by decide +kernel
theorem d_TC_init_112 : decode prog_1_method_1_code 112 = .ok (.aload_n 0, 1) := by decide +kernel
theorem d_TC_init_113 : decode prog_1_method_1_code 113 = .ok (.getfield 52, 3) := by decide +kernel
theorem d_TC_init_116 : decode prog_1_method_1_code 116 = .ok (.iload_n 3, 1) := by decide +kernel
theorem d_TC_init_117 : decode prog_1_method_1_code 117 = .ok (.new 50, 3) := by decide +kernel
theorem d_TC_init_120 : decode prog_1_method_1_code 120 = .ok (.dup, 1) := by decide +kernel
theorem d_TC_init_121 : decode prog_1_method_1_code 121 = .ok (.invokespecial 56, 3) := by decide +kernel
theorem d_TC_init_124 : decode prog_1_method_1_code 124 = .ok (.aastore, 1) := by decide +kernel
theorem d_TC_init_125 : decode prog_1_method_1_code 125 = .ok (.iinc 3 1, 3) := by decide +kernel
theorem d_TC_init_128 : decode prog_1_method_1_code 128 = .ok (.goto (-22), 3) := by decide +kernel
theorem d_TC_init_131 : decode prog_1_method_1_code 131 = .ok (.aload_n 0, 1) := by decide +kernel
theorem d_TC_init_132 : decode prog_1_method_1_code 132 = .ok (.bipush 21, 2) := by decide +kernel
theorem d_TC_init_134 : decode prog_1_method_1_code 134 = .ok (.newarray .int, 2) := by decide +kernel
theorem d_TC_init_136 : decode prog_1_method_1_code 136 = .ok (.putfield 57, 3) := by decide +kernel
theorem d_TC_init_139 : decode prog_1_method_1_code 139 = .ok (.aload_n 0, 1) := by decide +kernel
theorem d_TC_init_140 : decode prog_1_method_1_code 140 = .ok (.bipush 6, 2) := by decide +kernel
theorem d_TC_init_142 : decode prog_1_method_1_code 142 = .ok (.newarray .int, 2) := by decide +kernel
theorem d_TC_init_144 : decode prog_1_method_1_code 144 = .ok (.putfield 61, 3) := by decide +kernel
theorem d_TC_init_147 : decode prog_1_method_1_code 147 = .ok (.return_, 1) := by decide +kernel
theorem d_Sc_init_0 : decode prog_5_method_1_code 0 = .ok (.aload_n 0, 1) := by decide +kernel
theorem d_Sc_init_1 : decode prog_5_method_1_code 1 = .ok (.invokespecial 3, 3) := by decide +kernel
theorem d_Sc_init_4 : decode prog_5_method_1_code 4 = .ok (.aload_n 0, 1) := by decide +kernel
theorem d_Sc_init_5 : decode prog_5_method_1_code 5 = .ok (.bipush 100, 2) := by decide +kernel
theorem d_Sc_init_7 : decode prog_5_method_1_code 7 = .ok (.newarray .int, 2) := by decide +kernel
theorem d_Sc_init_9 : decode prog_5_method_1_code 9 = .ok (.putfield 9, 3) := by decide +kernel
theorem d_Sc_init_12 : decode prog_5_method_1_code 12 = .ok (.aload_n 0, 1) := by decide +kernel
theorem d_Sc_init_13 : decode prog_5_method_1_code 13 = .ok (.bipush 6, 2) := by decide +kernel
theorem d_Sc_init_15 : decode prog_5_method_1_code 15 = .ok (.newarray .int, 2) := by decide +kernel
theorem d_Sc_init_17 : decode prog_5_method_1_code 17 = .ok (.putfield 15, 3) := by decide +kernel
theorem d_Sc_init_20 : decode prog_5_method_1_code 20 = .ok (.aload_n 0, 1) := by decide +kernel
theorem d_Sc_init_21 : decode prog_5_method_1_code 21 = .ok (.iconst 5, 1) := by decide +kernel
theorem d_Sc_init_22 : decode prog_5_method_1_code 22 = .ok (.putfield 18, 3) := by decide +kernel
theorem d_Sc_init_25 : decode prog_5_method_1_code 25 = .ok (.aload_n 0, 1) := by decide +kernel
theorem d_Sc_init_26 : decode prog_5_method_1_code 26 = .ok (.iconst 3, 1) := by decide +kernel
theorem d_Sc_init_27 : decode prog_5_method_1_code 27 = .ok (.putfield 22, 3) := by decide +kernel
theorem d_Sc_init_30 : decode prog_5_method_1_code 30 = .ok (.aload_n 0, 1) := by decide +kernel
theorem d_Sc_init_31 : decode prog_5_method_1_code 31 = .ok (.bipush 40, 2) := by decide +kernel
theorem d_Sc_init_33 : decode prog_5_method_1_code 33 = .ok (.putfield 25, 3) := by decide +kernel
theorem d_Sc_init_36 : decode prog_5_method_1_code 36 = .ok (.aload_n 0, 1) := by decide +kernel
theorem d_Sc_init_37 : decode prog_5_method_1_code 37 = .ok (.bipush 36, 2) := by decide +kernel
theorem d_Sc_init_39 : decode prog_5_method_1_code 39 = .ok (.iconst 0, 1) := by decide +kernel
theorem d_Sc_init_40 : decode prog_5_method_1_code 40 = .ok (.iload_n 1, 1) := by decide +kernel
theorem d_Sc_init_41 : decode prog_5_method_1_code 41 = .ok (.invokestatic 28, 3) := by decide +kernel
theorem d_Sc_init_44 : decode prog_5_method_1_code 44 = .ok (.imul, 1) := by decide +kernel
theorem d_Sc_init_45 : decode prog_5_method_1_code 45 = .ok (.newarray .long, 2) := by decide +kernel
theorem d_Sc_init_47 : decode prog_5_method_1_code 47 = .ok (.putfield 34, 3) := by decide +kernel
theorem d_Sc_init_50 : decode prog_5_method_1_code 50 = .ok (.aload_n 0, 1) := by decide +kernel
theorem d_Sc_init_51 : decode prog_5_method_1_code 51 = .ok (.iconst 0, 1) := by decide +kernel
theorem d_Sc_init_52 : decode prog_5_method_1_code 52 = .ok (.newarray .char, 2) := by decide +kernel
theorem d_Sc_init_54 : decode prog_5_method_1_code 54 = .ok (.putfield 38, 3) := by decide +kernel
theorem d_Sc_init_57 : decode prog_5_method_1_code 57 = .ok (.return_, 1) := by decide +kernel
theorem d_Ma_init_0 : decode prog_4_method_1_code 0 = .ok (.aload_n 0, 1) := by decide +kernel
theorem d_Ma_init_1 : decode prog_4_method_1_code 1 = .ok (.invokespecial 1, 3) := by decide +kernel
theorem d_Ma_init_4 : decode prog_4_method_1_code 4 = .ok (.aload_n 0, 1) := by decide +kernel
theorem d_Ma_init_5 : decode prog_4_method_1_code 5 = .ok (.iload_n 1, 1) := by decide +kernel
theorem d_Ma_init_6 : decode prog_4_method_1_code 6 = .ok (.putfield 7, 3) := by decide +kernel
theorem d_Ma_init_9 : decode prog_4_method_1_code 9 = .ok (.aload_n 0, 1) := by decide +kernel
theorem d_Ma_init_10 : decode prog_4_method_1_code 10 = .ok (.iload_n 2, 1) := by decide +kernel
theorem d_Ma_init_11 : decode prog_4_method_1_code 11 = .ok (.putfield 13, 3) := by decide +kernel
theorem d_Ma_init_14 : decode prog_4_method_1_code 14 = .ok (.return_, 1) := by decide +kernel
theorem d_Si_init_0 : decode prog_6_method_1_code 0 = .ok (.aload_n 0, 1) := by decide +kernel
theorem d_Si_init_1 : decode prog_6_method_1_code 1 = .ok (.invokespecial 3, 3) := by decide +kernel
theorem d_Si_init_4 : decode prog_6_method_1_code 4 = .ok (.aload_n 0, 1) := by decide +kernel
theorem d_Si_init_5 : decode prog_6_method_1_code 5 = .ok (.bipush 6, 2) := by decide +kernel
theorem d_Si_init_7 : decode prog_6_method_1_code 7 = .ok (.anewarray 9, 3) := by decide +kernel
theorem d_Si_init_10 : decode prog_6_method_1_code 10 = .ok (.putfield 11, 3) := by decide +kernel
theorem d_Si_init_13 : decode prog_6_method_1_code 13 = .ok (.aload_n 0, 1) := by decide +kernel
theorem d_Si_init_14 : decode prog_6_method_1_code 14 = .ok (.bipush 6, 2) := by decide +kernel
theorem d_Si_init_16 : decode prog_6_method_1_code 16 = .ok (.newarray .int, 2) := by decide +kernel
theorem d_Si_init_18 : decode prog_6_method_1_code 18 = .ok (.putfield 17, 3) := by decide +kernel
theorem d_Si_init_21 : decode prog_6_method_1_code 21 = .ok (.aload_n 0, 1) := by decide +kernel
theorem d_Si_init_22 : decode prog_6_method_1_code 22 = .ok (.bipush 6, 2) := by decide +kernel
theorem d_Si_init_24 : decode prog_6_method_1_code 24 = .ok (.newarray .int, 2) := by decide +kernel
theorem d_Si_init_26 : decode prog_6_method_1_code 26 = .ok (.putfield 21, 3) := by decide +kernel
theorem d_Si_init_29 : decode prog_6_method_1_code 29 = .ok (.aload_n 0, 1) := by decide +kernel
theorem d_Si_init_30 : decode prog_6_method_1_code 30 = .ok (.bipush 24, 2) := by decide +kernel
theorem d_Si_init_32 : decode prog_6_method_1_code 32 = .ok (.newarray .int, 2) := by decide +kernel
theorem d_Si_init_34 : decode prog_6_method_1_code 34 = .ok (.putfield 24, 3) := by decide +kernel
theorem d_Si_init_37 : decode prog_6_method_1_code 37 = .ok (.aload_n 0, 1) := by decide +kernel
theorem d_Si_init_38 : decode prog_6_method_1_code 38 = .ok (.bipush 6, 2) := by decide +kernel
theorem d_Si_init_40 : decode prog_6_method_1_code 40 = .ok (.newarray .int, 2) := by decide +kernel
theorem d_Si_init_42 : decode prog_6_method_1_code 42 = .ok (.putfield 27, 3) := by decide +kernel
theorem d_Si_init_45 : decode prog_6_method_1_code 45 = .ok (.aload_n 0, 1) := by decide +kernel
theorem d_Si_init_46 : decode prog_6_method_1_code 46 = .ok (.bipush 6, 2) := by decide +kernel
theorem d_Si_init_48 : decode prog_6_method_1_code 48 = .ok (.newarray .int, 2) := by decide +kernel
theorem d_Si_init_50 : decode prog_6_method_1_code 50 = .ok (.putfield 30, 3) := by decide +kernel
theorem d_Si_init_53 : decode prog_6_method_1_code 53 = .ok (.aload_n 0, 1) := by decide +kernel
theorem d_Si_init_54 : decode prog_6_method_1_code 54 = .ok (.bipush 8, 2) := by decide +kernel
theorem d_Si_init_56 : decode prog_6_method_1_code 56 = .ok (.newarray .int, 2) := by decide +kernel
theorem d_Si_init_58 : decode prog_6_method_1_code 58 = .ok (.putfield 33, 3) := by decide +kernel
theorem d_Si_init_61 : decode prog_6_method_1_code 61 = .ok (.aload_n 0, 1) := by decide +kernel
theorem d_Si_init_62 : decode prog_6_method_1_code 62 = .ok (.aload_n 1, 1) := by decide +kernel
theorem d_Si_init_63 : decode prog_6_method_1_code 63 = .ok (.putfield 36, 3) := by decide +kernel
theorem d_Si_init_66 : decode prog_6_method_1_code 66 = .ok (.iconst 0, 1) := by decide +kernel
theorem d_Si_init_67 : decode prog_6_method_1_code 67 = .ok (.istore_n 3, 1) := by decide +kernel
theorem d_Si_init_68 : decode prog_6_method_1_code 68 = .ok (.iload_n 3, 1) := by decide +kernel
theorem d_Si_init_69 : decode prog_6_method_1_code 69 = .ok (.bipush 6, 2) := by decide +kernel
theorem d_Si_init_71 : decode prog_6_method_1_code 71 = .ok (.if_icmp .ge 16, 3) := by decide +kernel
theorem d_Si_init_74 : decode prog_6_method_1_code 74 = .ok (.aload_n 0, 1) := by decide +kernel
theorem d_Si_init_75 : decode prog_6_method_1_code 75 = .ok (.getfield 11, 3) := by decide +kernel
theorem d_Si_init_78 : decode prog_6_method_1_code 78 = .ok (.iload_n 3, 1) := by decide +kernel
theorem d_Si_init_79 : decode prog_6_method_1_code 79 = .ok (.aload_n 2, 1) := by decide +kernel
theorem d_Si_init_80 : decode prog_6_method_1_code 80 = .ok (.aastore, 1) := by decide +kernel
theorem d_Si_init_81 : decode prog_6_method_1_code 81 = .ok (.iinc 3 1, 3) := by decide +kernel
theorem d_Si_init_84 : decode prog_6_method_1_code 84 = .ok (.goto (-16), 3) := by decide +kernel
theorem d_Si_init_87 : decode prog_6_method_1_code 87 = .ok (.return_, 1) := by decide +kernel
theorem d_Tr_init_0 : decode prog_12_method_1_code 0 = .ok (.aload_n 0, 1) := by decide +kernel
theorem d_Tr_init_1 : decode prog_12_method_1_code 1 = .ok (.invokespecial 3, 3) := by decide +kernel
theorem d_Tr_init_4 : decode prog_12_method_1_code 4 = .ok (.aload_n 0, 1) := by decide +kernel
theorem d_Tr_init_5 : decode prog_12_method_1_code 5 = .ok (.bipush 6, 2) := by decide +kernel
theorem d_Tr_init_7 : decode prog_12_method_1_code 7 = .ok (.newarray .int, 2) := by decide +kernel
theorem d_Tr_init_9 : decode prog_12_method_1_code 9 = .ok (.putfield 9, 3) := by decide +kernel
theorem d_Tr_init_12 : decode prog_12_method_1_code 12 = .ok (.aload_n 0, 1) := by decide +kernel
theorem d_Tr_init_13 : decode prog_12_method_1_code 13 = .ok (.aload_n 1, 1) := by decide +kernel
theorem d_Tr_init_14 : decode prog_12_method_1_code 14 = .ok (.putfield 15, 3) := by decide +kernel
theorem d_Tr_init_17 : decode prog_12_method_1_code 17 = .ok (.aload_n 0, 1) := by decide +kernel
theorem d_Tr_init_18 : decode prog_12_method_1_code 18 = .ok (.aload_n 2, 1) := by decide +kernel
theorem d_Tr_init_19 : decode prog_12_method_1_code 19 = .ok (.putfield 19, 3) := by decide +kernel
theorem d_Tr_init_22 : decode prog_12_method_1_code 22 = .ok (.return_, 1) := by decide +kernel
theorem d_Ta_init_0 : decode prog_9_method_1_code 0 = .ok (.aload_n 0, 1) := by decide +kernel
theorem d_Ta_init_1 : decode prog_9_method_1_code 1 = .ok (.invokespecial 3, 3) := by decide +kernel
theorem d_Ta_init_4 : decode prog_9_method_1_code 4 = .ok (.aload_n 0, 1) := by decide +kernel
theorem d_Ta_init_5 : decode prog_9_method_1_code 5 = .ok (.bipush 60, 2) := by decide +kernel
theorem d_Ta_init_7 : decode prog_9_method_1_code 7 = .ok (.newarray .long, 2) := by decide +kernel
theorem d_Ta_init_9 : decode prog_9_method_1_code 9 = .ok (.putfield 9, 3) := by decide +kernel
theorem d_Ta_init_12 : decode prog_9_method_1_code 12 = .ok (.aload_n 0, 1) := by decide +kernel
theorem d_Ta_init_13 : decode prog_9_method_1_code 13 = .ok (.iconst (-1), 1) := by decide +kernel
theorem d_Ta_init_14 : decode prog_9_method_1_code 14 = .ok (.putfield 15, 3) := by decide +kernel
theorem d_Ta_init_17 : decode prog_9_method_1_code 17 = .ok (.return_, 1) := by decide +kernel
theorem d_TC_man_0 : decode prog_1_method_2_code 0 = .ok (.iload_n 1, 1) := by decide +kernel
theorem d_TC_man_1 : decode prog_1_method_2_code 1 = .ok (.ifCond .lt 11, 3) := by decide +kernel
theorem d_TC_man_4 : decode prog_1_method_2_code 4 = .ok (.iload_n 1, 1) := by decide +kernel
theorem d_TC_man_5 : decode prog_1_method_2_code 5 = .ok (.getstatic 64, 3) := by decide +kernel
theorem d_TC_man_8 : decode prog_1_method_2_code 8 = .ok (.arraylength, 1) := by decide +kernel
theorem d_TC_man_9 : decode prog_1_method_2_code 9 = .ok (.if_icmp .lt 5, 3) := by decide +kernel
theorem d_TC_man_12 : decode prog_1_method_2_code 12 = .ok (.iconst (-1), 1) := by decide +kernel
theorem d_TC_man_13 : decode prog_1_method_2_code 13 = .ok (.ireturn, 1) := by decide +kernel
theorem d_TC_man_14 : decode prog_1_method_2_code 14 = .ok (.iload_n 2, 1) := by decide +kernel
theorem d_TC_man_15 : decode prog_1_method_2_code 15 = .ok (.ifCond .lt 9, 3) := by decide +kernel
theorem d_TC_man_18 : decode prog_1_method_2_code 18 = .ok (.iload_n 2, 1) := by decide +kernel
theorem d_TC_man_19 : decode prog_1_method_2_code 19 = .ok (.bipush 9, 2) := by decide +kernel
theorem d_TC_man_21 : decode prog_1_method_2_code 21 = .ok (.if_icmp .le 6, 3) := by decide +kernel
theorem d_TC_man_24 : decode prog_1_method_2_code 24 = .ok (.bipush (-2), 2) := by decide +kernel
theorem d_TC_man_26 : decode prog_1_method_2_code 26 = .ok (.ireturn, 1) := by decide +kernel
theorem d_TC_man_27 : decode prog_1_method_2_code 27 = .ok (.aload_n 0, 1) := by decide +kernel
theorem d_TC_man_28 : decode prog_1_method_2_code 28 = .ok (.getfield 24, 3) := by decide +kernel
theorem d_TC_man_31 : decode prog_1_method_2_code 31 = .ok (.getfield 67, 3) := by decide +kernel
theorem d_TC_man_34 : decode prog_1_method_2_code 34 = .ok (.bipush 6, 2) := by decide +kernel
theorem d_TC_man_36 : decode prog_1_method_2_code 36 = .ok (.if_icmp .lt 6, 3) := by decide +kernel
theorem d_TC_man_39 : decode prog_1_method_2_code 39 = .ok (.bipush (-4), 2) := by decide +kernel
theorem d_TC_man_41 : decode prog_1_method_2_code 41 = .ok (.ireturn, 1) := by decide +kernel
theorem d_TC_man_42 : decode prog_1_method_2_code 42 = .ok (.aload_n 0, 1) := by decide +kernel
theorem d_TC_man_43 : decode prog_1_method_2_code 43 = .ok (.getfield 24, 3) := by decide +kernel
theorem d_TC_man_46 : decode prog_1_method_2_code 46 = .ok (.iload_n 1, 1) := by decide +kernel
theorem d_TC_man_47 : decode prog_1_method_2_code 47 = .ok (.aload_n 0, 1) := by decide +kernel
theorem d_TC_man_48 : decode prog_1_method_2_code 48 = .ok (.getfield 24, 3) := by decide +kernel
theorem d_TC_man_51 : decode prog_1_method_2_code 51 = .ok (.getfield 67, 3) := by decide +kernel
theorem d_TC_man_54 : decode prog_1_method_2_code 54 = .ok (.iload_n 2, 1) := by decide +kernel
theorem d_TC_man_55 : decode prog_1_method_2_code 55 = .ok (.invokestatic 71, 3) := by decide +kernel
theorem d_TC_man_58 : decode prog_1_method_2_code 58 = .ok (.invokevirtual 75, 3) := by decide +kernel
theorem d_TC_man_61 : decode prog_1_method_2_code 61 = .ok (.ireturn, 1) := by decide +kernel
theorem d_TC_newMan_0 : decode prog_1_method_3_code 0 = .ok (.iload_n 0, 1) := by decide +kernel
theorem d_TC_newMan_1 : decode prog_1_method_3_code 1 = .ok (.tableswitch 99 1 6 #[39, 49, 59, 69, 79, 89], 39) := by decide +kernel
theorem d_TC_newMan_40 : decode prog_1_method_3_code 40 = .ok (.new 79, 3) := by decide +kernel
theorem d_TC_newMan_43 : decode prog_1_method_3_code 43 = .ok (.dup, 1) := by decide +kernel
theorem d_TC_newMan_44 : decode prog_1_method_3_code 44 = .ok (.iload_n 1, 1) := by decide +kernel
theorem d_TC_newMan_45 : decode prog_1_method_3_code 45 = .ok (.iload_n 2, 1) := by decide +kernel
theorem d_TC_newMan_46 : decode prog_1_method_3_code 46 = .ok (.invokespecial 81, 3) := by decide +kernel
theorem d_TC_newMan_49 : decode prog_1_method_3_code 49 = .ok (.areturn, 1) := by decide +kernel
theorem d_TC_newMan_50 : decode prog_1_method_3_code 50 = .ok (.new 82, 3) := by decide +kernel
theorem d_TC_newMan_53 : decode prog_1_method_3_code 53 = .ok (.dup, 1) := by decide +kernel
theorem d_TC_newMan_54 : decode prog_1_method_3_code 54 = .ok (.iload_n 1, 1) := by decide +kernel
theorem d_TC_newMan_55 : decode prog_1_method_3_code 55 = .ok (.iload_n 2, 1) := by decide +kernel
theorem d_TC_newMan_56 : decode prog_1_method_3_code 56 = .ok (.invokespecial 84, 3) := by decide +kernel
theorem d_TC_newMan_59 : decode prog_1_method_3_code 59 = .ok (.areturn, 1) := by decide +kernel
theorem d_TC_newMan_60 : decode prog_1_method_3_code 60 = .ok (.new 85, 3) := by decide +kernel
theorem d_TC_newMan_63 : decode prog_1_method_3_code 63 = .ok (.dup, 1) := by decide +kernel
theorem d_TC_newMan_64 : decode prog_1_method_3_code 64 = .ok (.iload_n 1, 1) := by decide +kernel
theorem d_TC_newMan_65 : decode prog_1_method_3_code 65 = .ok (.iload_n 2, 1) := by decide +kernel
theorem d_TC_newMan_66 : decode prog_1_method_3_code 66 = .ok (.invokespecial 87, 3) := by decide +kernel
theorem d_TC_newMan_69 : decode prog_1_method_3_code 69 = .ok (.areturn, 1) := by decide +kernel
theorem d_TC_newMan_70 : decode prog_1_method_3_code 70 = .ok (.new 88, 3) := by decide +kernel
theorem d_TC_newMan_73 : decode prog_1_method_3_code 73 = .ok (.dup, 1) := by decide +kernel
theorem d_TC_newMan_74 : decode prog_1_method_3_code 74 = .ok (.iload_n 1, 1) := by decide +kernel
theorem d_TC_newMan_75 : decode prog_1_method_3_code 75 = .ok (.iload_n 2, 1) := by decide +kernel
theorem d_TC_newMan_76 : decode prog_1_method_3_code 76 = .ok (.invokespecial 90, 3) := by decide +kernel
theorem d_TC_newMan_79 : decode prog_1_method_3_code 79 = .ok (.areturn, 1) := by decide +kernel
theorem d_TC_newMan_80 : decode prog_1_method_3_code 80 = .ok (.new 91, 3) := by decide +kernel
theorem d_TC_newMan_83 : decode prog_1_method_3_code 83 = .ok (.dup, 1) := by decide +kernel
theorem d_TC_newMan_84 : decode prog_1_method_3_code 84 = .ok (.iload_n 1, 1) := by decide +kernel
theorem d_TC_newMan_85 : decode prog_1_method_3_code 85 = .ok (.iload_n 2, 1) := by decide +kernel
theorem d_TC_newMan_86 : decode prog_1_method_3_code 86 = .ok (.invokespecial 93, 3) := by decide +kernel
theorem d_TC_newMan_89 : decode prog_1_method_3_code 89 = .ok (.areturn, 1) := by decide +kernel
theorem d_TC_newMan_90 : decode prog_1_method_3_code 90 = .ok (.new 94, 3) := by decide +kernel
theorem d_TC_newMan_93 : decode prog_1_method_3_code 93 = .ok (.dup, 1) := by decide +kernel
theorem d_TC_newMan_94 : decode prog_1_method_3_code 94 = .ok (.iload_n 1, 1) := by decide +kernel
theorem d_TC_newMan_95 : decode prog_1_method_3_code 95 = .ok (.iload_n 2, 1) := by decide +kernel
theorem d_TC_newMan_96 : decode prog_1_method_3_code 96 = .ok (.invokespecial 96, 3) := by decide +kernel
theorem d_TC_newMan_99 : decode prog_1_method_3_code 99 = .ok (.areturn, 1) := by decide +kernel
theorem d_TC_newMan_100 : decode prog_1_method_3_code 100 = .ok (.new 14, 3) := by decide +kernel
theorem d_TC_newMan_103 : decode prog_1_method_3_code 103 = .ok (.dup, 1) := by decide +kernel
theorem d_TC_newMan_104 : decode prog_1_method_3_code 104 = .ok (.iload_n 1, 1) := by decide +kernel
theorem d_TC_newMan_105 : decode prog_1_method_3_code 105 = .ok (.iload_n 2, 1) := by decide +kernel
theorem d_TC_newMan_106 : decode prog_1_method_3_code 106 = .ok (.invokespecial 16, 3) := by decide +kernel
theorem d_TC_newMan_109 : decode prog_1_method_3_code 109 = .ok (.areturn, 1) := by decide +kernel
theorem d_St_init_0 : decode prog_8_method_1_code 0 = .ok (.aload_n 0, 1) := by decide +kernel
theorem d_St_init_1 : decode prog_8_method_1_code 1 = .ok (.iload_n 1, 1) := by decide +kernel
theorem d_St_init_2 : decode prog_8_method_1_code 2 = .ok (.iload_n 2, 1) := by decide +kernel
theorem d_St_init_3 : decode prog_8_method_1_code 3 = .ok (.invokespecial 1, 3) := by decide +kernel
theorem d_St_init_6 : decode prog_8_method_1_code 6 = .ok (.return_, 1) := by decide +kernel
theorem d_Gl_init_0 : decode prog_3_method_1_code 0 = .ok (.aload_n 0, 1) := by decide +kernel
theorem d_Gl_init_1 : decode prog_3_method_1_code 1 = .ok (.iload_n 1, 1) := by decide +kernel
theorem d_Gl_init_2 : decode prog_3_method_1_code 2 = .ok (.iload_n 2, 1) := by decide +kernel
theorem d_Gl_init_3 : decode prog_3_method_1_code 3 = .ok (.invokespecial 1, 3) := by decide +kernel
theorem d_Gl_init_6 : decode prog_3_method_1_code 6 = .ok (.return_, 1) := by decide +kernel
theorem d_Ti_init_0 : decode prog_10_method_1_code 0 = .ok (.aload_n 0, 1) := by decide +kernel
theorem d_Ti_init_1 : decode prog_10_method_1_code 1 = .ok (.iload_n 1, 1) := by decide +kernel
theorem d_Ti_init_2 : decode prog_10_method_1_code 2 = .ok (.iload_n 2, 1) := by decide +kernel
theorem d_Ti_init_3 : decode prog_10_method_1_code 3 = .ok (.invokespecial 1, 3) := by decide +kernel
theorem d_Ti_init_6 : decode prog_10_method_1_code 6 = .ok (.return_, 1) := by decide +kernel
theorem d_Ca_init_0 : decode prog_2_method_1_code 0 = .ok (.aload_n 0, 1) := by decide +kernel
theorem d_Ca_init_1 : decode prog_2_method_1_code 1 = .ok (.iload_n 1, 1) := by decide +kernel
theorem d_Ca_init_2 : decode prog_2_method_1_code 2 = .ok (.iload_n 2, 1) := by decide +kernel
theorem d_Ca_init_3 : decode prog_2_method_1_code 3 = .ok (.invokespecial 1, 3) := by decide +kernel
theorem d_Ca_init_6 : decode prog_2_method_1_code 6 = .ok (.return_, 1) := by decide +kernel
theorem d_Sl_init_0 : decode prog_7_method_1_code 0 = .ok (.aload_n 0, 1) := by decide +kernel
theorem d_Sl_init_1 : decode prog_7_method_1_code 1 = .ok (.iload_n 1, 1) := by decide +kernel
theorem d_Sl_init_2 : decode prog_7_method_1_code 2 = .ok (.iload_n 2, 1) := by decide +kernel
theorem d_Sl_init_3 : decode prog_7_method_1_code 3 = .ok (.invokespecial 1, 3) := by decide +kernel
theorem d_Sl_init_6 : decode prog_7_method_1_code 6 = .ok (.return_, 1) := by decide +kernel
theorem d_To_init_0 : decode prog_11_method_1_code 0 = .ok (.aload_n 0, 1) := by decide +kernel
theorem d_To_init_1 : decode prog_11_method_1_code 1 = .ok (.iload_n 1, 1) := by decide +kernel
theorem d_To_init_2 : decode prog_11_method_1_code 2 = .ok (.iload_n 2, 1) := by decide +kernel
theorem d_To_init_3 : decode prog_11_method_1_code 3 = .ok (.invokespecial 1, 3) := by decide +kernel
theorem d_To_init_6 : decode prog_11_method_1_code 6 = .ok (.return_, 1) := by decide +kernel
theorem d_Si_join_0 : decode prog_6_method_4_code 0 = .ok (.aload_n 0, 1) := by decide +kernel
theorem d_Si_join_1 : decode prog_6_method_4_code 1 = .ok (.getfield 46, 3) := by decide +kernel
theorem d_Si_join_4 : decode prog_6_method_4_code 4 = .ok (.istore_n 2, 1) := by decide +kernel
theorem d_Si_join_5 : decode prog_6_method_4_code 5 = .ok (.iload_n 2, 1) := by decide +kernel
theorem d_Si_join_6 : decode prog_6_method_4_code 6 = .ok (.bipush 6, 2) := by decide +kernel
theorem d_Si_join_8 : decode prog_6_method_4_code 8 = .ok (.if_icmp .lt 6, 3) := by decide +kernel
theorem d_Si_join_11 : decode prog_6_method_4_code 11 = .ok (.bipush (-4), 2) := by decide +kernel
theorem d_Si_join_13 : decode prog_6_method_4_code 13 = .ok (.ireturn, 1) := by decide +kernel
theorem d_Si_join_14 : decode prog_6_method_4_code 14 = .ok (.aload_n 0, 1) := by decide +kernel
theorem d_Si_join_15 : decode prog_6_method_4_code 15 = .ok (.getfield 11, 3) := by decide +kernel
theorem d_Si_join_18 : decode prog_6_method_4_code 18 = .ok (.iload_n 2, 1) := by decide +kernel
theorem d_Si_join_19 : decode prog_6_method_4_code 19 = .ok (.aload_n 1, 1) := by decide +kernel
theorem d_Si_join_20 : decode prog_6_method_4_code 20 = .ok (.aastore, 1) := by decide +kernel
theorem d_Si_join_21 : decode prog_6_method_4_code 21 = .ok (.aload_n 0, 1) := by decide +kernel
theorem d_Si_join_22 : decode prog_6_method_4_code 22 = .ok (.getfield 17, 3) := by decide +kernel
theorem d_Si_join_25 : decode prog_6_method_4_code 25 = .ok (.iload_n 2, 1) := by decide +kernel
theorem d_Si_join_26 : decode prog_6_method_4_code 26 = .ok (.iconst 0, 1) := by decide +kernel
theorem d_Si_join_27 : decode prog_6_method_4_code 27 = .ok (.iastore, 1) := by decide +kernel
theorem d_Si_join_28 : decode prog_6_method_4_code 28 = .ok (.aload_n 0, 1) := by decide +kernel
theorem d_Si_join_29 : decode prog_6_method_4_code 29 = .ok (.getfield 21, 3) := by decide +kernel
theorem d_Si_join_32 : decode prog_6_method_4_code 32 = .ok (.iload_n 2, 1) := by decide +kernel
theorem d_Si_join_33 : decode prog_6_method_4_code 33 = .ok (.iconst 0, 1) := by decide +kernel
theorem d_Si_join_34 : decode prog_6_method_4_code 34 = .ok (.iastore, 1) := by decide +kernel
theorem d_Si_join_35 : decode prog_6_method_4_code 35 = .ok (.iconst 0, 1) := by decide +kernel
theorem d_Si_join_36 : decode prog_6_method_4_code 36 = .ok (.istore_n 3, 1) := by decide +kernel
theorem d_Si_join_37 : decode prog_6_method_4_code 37 = .ok (.iload_n 3, 1) := by decide +kernel
theorem d_Si_join_38 : decode prog_6_method_4_code 38 = .ok (.iconst 4, 1) := by decide +kernel
theorem d_Si_join_39 : decode prog_6_method_4_code 39 = .ok (.if_icmp .ge 20, 3) := by decide +kernel
theorem d_Si_join_42 : decode prog_6_method_4_code 42 = .ok (.aload_n 0, 1) := by decide +kernel
theorem d_Si_join_43 : decode prog_6_method_4_code 43 = .ok (.getfield 24, 3) := by decide +kernel
theorem d_Si_join_46 : decode prog_6_method_4_code 46 = .ok (.iload_n 2, 1) := by decide +kernel
theorem d_Si_join_47 : decode prog_6_method_4_code 47 = .ok (.iconst 4, 1) := by decide +kernel
theorem d_Si_join_48 : decode prog_6_method_4_code 48 = .ok (.imul, 1) := by decide +kernel
theorem d_Si_join_49 : decode prog_6_method_4_code 49 = .ok (.iload_n 3, 1) := by decide +kernel
theorem d_Si_join_50 : decode prog_6_method_4_code 50 = .ok (.iadd, 1) := by decide +kernel
theorem d_Si_join_51 : decode prog_6_method_4_code 51 = .ok (.iconst 0, 1) := by decide +kernel
theorem d_Si_join_52 : decode prog_6_method_4_code 52 = .ok (.iastore, 1) := by decide +kernel
theorem d_Si_join_53 : decode prog_6_method_4_code 53 = .ok (.iinc 3 1, 3) := by decide +kernel
theorem d_Si_join_56 : decode prog_6_method_4_code 56 = .ok (.goto (-19), 3) := by decide +kernel
theorem d_Si_join_59 : decode prog_6_method_4_code 59 = .ok (.aload_n 0, 1) := by decide +kernel
theorem d_Si_join_60 : decode prog_6_method_4_code 60 = .ok (.dup, 1) := by decide +kernel
theorem d_Si_join_61 : decode prog_6_method_4_code 61 = .ok (.getfield 46, 3) := by decide +kernel
theorem d_Si_join_64 : decode prog_6_method_4_code 64 = .ok (.iconst 1, 1) := by decide +kernel
theorem d_Si_join_65 : decode prog_6_method_4_code 65 = .ok (.iadd, 1) := by decide +kernel
theorem d_Si_join_66 : decode prog_6_method_4_code 66 = .ok (.putfield 46, 3) := by decide +kernel
theorem d_Si_join_69 : decode prog_6_method_4_code 69 = .ok (.aload_n 0, 1) := by decide +kernel
theorem d_Si_join_70 : decode prog_6_method_4_code 70 = .ok (.aload_n 0, 1) := by decide +kernel
theorem d_Si_join_71 : decode prog_6_method_4_code 71 = .ok (.getfield 50, 3) := by decide +kernel
theorem d_Si_join_74 : decode prog_6_method_4_code 74 = .ok (.iload_n 2, 1) := by decide +kernel
theorem d_Si_join_75 : decode prog_6_method_4_code 75 = .ok (.invokevirtual 68, 3) := by decide +kernel
theorem d_Si_join_78 : decode prog_6_method_4_code 78 = .ok (.iload_n 2, 1) := by decide +kernel
theorem d_Si_join_79 : decode prog_6_method_4_code 79 = .ok (.ireturn, 1) := by decide +kernel
theorem d_Si_insertAt_0 : decode prog_6_method_7_code 0 = .ok (.iload_n 1, 1) := by decide +kernel
theorem d_Si_insertAt_1 : decode prog_6_method_7_code 1 = .ok (.ifCond .lt 20, 3) := by decide +kernel
theorem d_Si_insertAt_4 : decode prog_6_method_7_code 4 = .ok (.iload_n 1, 1) := by decide +kernel
theorem d_Si_insertAt_5 : decode prog_6_method_7_code 5 = .ok (.aload_n 0, 1) := by decide +kernel
theorem d_Si_insertAt_6 : decode prog_6_method_7_code 6 = .ok (.getfield 50, 3) := by decide +kernel
theorem d_Si_insertAt_9 : decode prog_6_method_7_code 9 = .ok (.if_icmp .gt 12, 3) := by decide +kernel
theorem d_Si_insertAt_12 : decode prog_6_method_7_code 12 = .ok (.aload_n 0, 1) := by decide +kernel
theorem d_Si_insertAt_13 : decode prog_6_method_7_code 13 = .ok (.getfield 50, 3) := by decide +kernel
theorem d_Si_insertAt_16 : decode prog_6_method_7_code 16 = .ok (.bipush 6, 2) := by decide +kernel
theorem d_Si_insertAt_18 : decode prog_6_method_7_code 18 = .ok (.if_icmp .lt 4, 3) := by decide +kernel
theorem d_Si_insertAt_21 : decode prog_6_method_7_code 21 = .ok (.return_, 1) := by decide +kernel
theorem d_Si_insertAt_22 : decode prog_6_method_7_code 22 = .ok (.aload_n 0, 1) := by decide +kernel
theorem d_Si_insertAt_23 : decode prog_6_method_7_code 23 = .ok (.getfield 27, 3) := by decide +kernel
theorem d_Si_insertAt_26 : decode prog_6_method_7_code 26 = .ok (.iload_n 1, 1) := by decide +kernel
theorem d_Si_insertAt_27 : decode prog_6_method_7_code 27 = .ok (.aload_n 0, 1) := by decide +kernel
theorem d_Si_insertAt_28 : decode prog_6_method_7_code 28 = .ok (.getfield 27, 3) := by decide +kernel
theorem d_Si_insertAt_31 : decode prog_6_method_7_code 31 = .ok (.iload_n 1, 1) := by decide +kernel
theorem d_Si_insertAt_32 : decode prog_6_method_7_code 32 = .ok (.iconst 1, 1) := by decide +kernel
theorem d_Si_insertAt_33 : decode prog_6_method_7_code 33 = .ok (.iadd, 1) := by decide +kernel
theorem d_Si_insertAt_34 : decode prog_6_method_7_code 34 = .ok (.aload_n 0, 1) := by decide +kernel
theorem d_Si_insertAt_35 : decode prog_6_method_7_code 35 = .ok (.getfield 50, 3) := by decide +kernel
theorem d_Si_insertAt_38 : decode prog_6_method_7_code 38 = .ok (.iload_n 1, 1) := by decide +kernel
theorem d_Si_insertAt_39 : decode prog_6_method_7_code 39 = .ok (.isub, 1) := by decide +kernel
theorem d_Si_insertAt_40 : decode prog_6_method_7_code 40 = .ok (.invokestatic 40, 3) := by decide +kernel
theorem d_Si_insertAt_43 : decode prog_6_method_7_code 43 = .ok (.aload_n 0, 1) := by decide +kernel
theorem d_Si_insertAt_44 : decode prog_6_method_7_code 44 = .ok (.getfield 27, 3) := by decide +kernel
theorem d_Si_insertAt_47 : decode prog_6_method_7_code 47 = .ok (.iload_n 1, 1) := by decide +kernel
theorem d_Si_insertAt_48 : decode prog_6_method_7_code 48 = .ok (.iload_n 2, 1) := by decide +kernel
theorem d_Si_insertAt_49 : decode prog_6_method_7_code 49 = .ok (.iastore, 1) := by decide +kernel
theorem d_Si_insertAt_50 : decode prog_6_method_7_code 50 = .ok (.aload_n 0, 1) := by decide +kernel
theorem d_Si_insertAt_51 : decode prog_6_method_7_code 51 = .ok (.dup, 1) := by decide +kernel
theorem d_Si_insertAt_52 : decode prog_6_method_7_code 52 = .ok (.getfield 50, 3) := by decide +kernel
theorem d_Si_insertAt_55 : decode prog_6_method_7_code 55 = .ok (.iconst 1, 1) := by decide +kernel
theorem d_Si_insertAt_56 : decode prog_6_method_7_code 56 = .ok (.iadd, 1) := by decide +kernel
theorem d_Si_insertAt_57 : decode prog_6_method_7_code 57 = .ok (.putfield 50, 3) := by decide +kernel
theorem d_Si_insertAt_60 : decode prog_6_method_7_code 60 = .ok (.return_, 1) := by decide +kernel
theorem d_TC_of_0 : decode prog_1_method_4_code 0 = .ok (.aload_n 0, 1) := by decide +kernel
theorem d_TC_of_1 : decode prog_1_method_4_code 1 = .ok (.iload_n 1, 1) := by decide +kernel
theorem d_TC_of_2 : decode prog_1_method_4_code 2 = .ok (.invokevirtual 97, 3) := by decide +kernel
theorem d_TC_of_5 : decode prog_1_method_4_code 5 = .ok (.ifCond .eq 5, 3) := by decide +kernel
theorem d_TC_of_8 : decode prog_1_method_4_code 8 = .ok (.iconst (-1), 1) := by decide +kernel
theorem d_TC_of_9 : decode prog_1_method_4_code 9 = .ok (.ireturn, 1) := by decide +kernel
theorem d_TC_of_10 : decode prog_1_method_4_code 10 = .ok (.iload_n 2, 1) := by decide +kernel
theorem d_TC_of_11 : decode prog_1_method_4_code 11 = .ok (.tableswitch 128 0 6 #[41, 54, 67, 77, 87, 96, 112], 41) := by decide +kernel
theorem d_TC_of_52 : decode prog_1_method_4_code 52 = .ok (.aload_n 0, 1) := by decide +kernel
theorem d_TC_of_53 : decode prog_1_method_4_code 53 = .ok (.getfield 24, 3) := by decide +kernel
theorem d_TC_of_56 : decode prog_1_method_4_code 56 = .ok (.getfield 101, 3) := by decide +kernel
theorem d_TC_of_59 : decode prog_1_method_4_code 59 = .ok (.iload_n 1, 1) := by decide +kernel
theorem d_TC_of_60 : decode prog_1_method_4_code 60 = .ok (.aaload, 1) := by decide +kernel
theorem d_TC_of_61 : decode prog_1_method_4_code 61 = .ok (.invokevirtual 105, 3) := by decide +kernel
theorem d_TC_of_64 : decode prog_1_method_4_code 64 = .ok (.ireturn, 1) := by decide +kernel
theorem d_TC_of_65 : decode prog_1_method_4_code 65 = .ok (.aload_n 0, 1) := by decide +kernel
theorem d_TC_of_66 : decode prog_1_method_4_code 66 = .ok (.getfield 24, 3) := by decide +kernel
theorem d_TC_of_69 : decode prog_1_method_4_code 69 = .ok (.getfield 101, 3) := by decide +kernel
theorem d_TC_of_72 : decode prog_1_method_4_code 72 = .ok (.iload_n 1, 1) := by decide +kernel
theorem d_TC_of_73 : decode prog_1_method_4_code 73 = .ok (.aaload, 1) := by decide +kernel
theorem d_TC_of_74 : decode prog_1_method_4_code 74 = .ok (.getfield 109, 3) := by decide +kernel
theorem d_TC_of_77 : decode prog_1_method_4_code 77 = .ok (.ireturn, 1) := by decide +kernel
theorem d_TC_of_78 : decode prog_1_method_4_code 78 = .ok (.aload_n 0, 1) := by decide +kernel
theorem d_TC_of_79 : decode prog_1_method_4_code 79 = .ok (.getfield 24, 3) := by decide +kernel
theorem d_TC_of_82 : decode prog_1_method_4_code 82 = .ok (.getfield 112, 3) := by decide +kernel
theorem d_TC_of_85 : decode prog_1_method_4_code 85 = .ok (.iload_n 1, 1) := by decide +kernel
theorem d_TC_of_86 : decode prog_1_method_4_code 86 = .ok (.iaload, 1) := by decide +kernel
theorem d_TC_of_87 : decode prog_1_method_4_code 87 = .ok (.ireturn, 1) := by decide +kernel
theorem d_TC_of_88 : decode prog_1_method_4_code 88 = .ok (.aload_n 0, 1) := by decide +kernel
theorem d_TC_of_89 : decode prog_1_method_4_code 89 = .ok (.getfield 24, 3) := by decide +kernel
theorem d_TC_of_92 : decode prog_1_method_4_code 92 = .ok (.getfield 115, 3) := by decide +kernel
theorem d_TC_of_95 : decode prog_1_method_4_code 95 = .ok (.iload_n 1, 1) := by decide +kernel
theorem d_TC_of_96 : decode prog_1_method_4_code 96 = .ok (.iaload, 1) := by decide +kernel
theorem d_TC_of_97 : decode prog_1_method_4_code 97 = .ok (.ireturn, 1) := by decide +kernel
theorem d_TC_of_98 : decode prog_1_method_4_code 98 = .ok (.aload_n 0, 1) := by decide +kernel
theorem d_TC_of_99 : decode prog_1_method_4_code 99 = .ok (.getfield 24, 3) := by decide +kernel
theorem d_TC_of_102 : decode prog_1_method_4_code 102 = .ok (.iload_n 1, 1) := by decide +kernel
theorem d_TC_of_103 : decode prog_1_method_4_code 103 = .ok (.invokevirtual 118, 3) := by decide +kernel
theorem d_TC_of_106 : decode prog_1_method_4_code 106 = .ok (.ireturn, 1) := by decide +kernel
theorem d_TC_of_107 : decode prog_1_method_4_code 107 = .ok (.aload_n 0, 1) := by decide +kernel
theorem d_TC_of_108 : decode prog_1_method_4_code 108 = .ok (.getfield 24, 3) := by decide +kernel
theorem d_TC_of_111 : decode prog_1_method_4_code 111 = .ok (.aload_n 0, 1) := by decide +kernel
theorem d_TC_of_112 : decode prog_1_method_4_code 112 = .ok (.getfield 24, 3) := by decide +kernel
theorem d_TC_of_115 : decode prog_1_method_4_code 115 = .ok (.iload_n 1, 1) := by decide +kernel
theorem d_TC_of_116 : decode prog_1_method_4_code 116 = .ok (.invokevirtual 118, 3) := by decide +kernel
theorem d_TC_of_119 : decode prog_1_method_4_code 119 = .ok (.invokevirtual 122, 3) := by decide +kernel
theorem d_TC_of_122 : decode prog_1_method_4_code 122 = .ok (.ireturn, 1) := by decide +kernel
theorem d_TC_of_123 : decode prog_1_method_4_code 123 = .ok (.aload_n 0, 1) := by decide +kernel
theorem d_TC_of_124 : decode prog_1_method_4_code 124 = .ok (.getfield 24, 3) := by decide +kernel
theorem d_TC_of_127 : decode prog_1_method_4_code 127 = .ok (.aload_n 0, 1) := by decide +kernel
theorem d_TC_of_128 : decode prog_1_method_4_code 128 = .ok (.getfield 24, 3) := by decide +kernel
theorem d_TC_of_131 : decode prog_1_method_4_code 131 = .ok (.iload_n 1, 1) := by decide +kernel
theorem d_TC_of_132 : decode prog_1_method_4_code 132 = .ok (.invokevirtual 118, 3) := by decide +kernel
theorem d_TC_of_135 : decode prog_1_method_4_code 135 = .ok (.invokevirtual 125, 3) := by decide +kernel
theorem d_TC_of_138 : decode prog_1_method_4_code 138 = .ok (.ireturn, 1) := by decide +kernel
theorem d_TC_of_139 : decode prog_1_method_4_code 139 = .ok (.iconst (-1), 1) := by decide +kernel
theorem d_TC_of_140 : decode prog_1_method_4_code 140 = .ok (.ireturn, 1) := by decide +kernel
theorem d_TC_isNoMan_0 : decode prog_1_method_43_code 0 = .ok (.iload_n 1, 1) := by decide +kernel
theorem d_TC_isNoMan_1 : decode prog_1_method_43_code 1 = .ok (.ifCond .lt 14, 3) := by decide +kernel
theorem d_TC_isNoMan_4 : decode prog_1_method_43_code 4 = .ok (.iload_n 1, 1) := by decide +kernel
theorem d_TC_isNoMan_5 : decode prog_1_method_43_code 5 = .ok (.aload_n 0, 1) := by decide +kernel
theorem d_TC_isNoMan_6 : decode prog_1_method_43_code 6 = .ok (.getfield 24, 3) := by decide +kernel
theorem d_TC_isNoMan_9 : decode prog_1_method_43_code 9 = .ok (.getfield 67, 3) := by decide +kernel
theorem d_TC_isNoMan_12 : decode prog_1_method_43_code 12 = .ok (.if_icmp .lt 7, 3) := by decide +kernel
theorem d_TC_isNoMan_15 : decode prog_1_method_43_code 15 = .ok (.iconst 1, 1) := by decide +kernel
theorem d_TC_isNoMan_16 : decode prog_1_method_43_code 16 = .ok (.goto 4, 3) := by decide +kernel
theorem d_TC_isNoMan_19 : decode prog_1_method_43_code 19 = .ok (.iconst 0, 1) := by decide +kernel
theorem d_TC_isNoMan_20 : decode prog_1_method_43_code 20 = .ok (.ireturn, 1) := by decide +kernel
theorem d_Ca_kind_0 : decode prog_2_method_2_code 0 = .ok (.iconst 4, 1) := by decide +kernel
theorem d_Ca_kind_1 : decode prog_2_method_2_code 1 = .ok (.ireturn, 1) := by decide +kernel
theorem d_Gl_kind_0 : decode prog_3_method_2_code 0 = .ok (.iconst 2, 1) := by decide +kernel
theorem d_Gl_kind_1 : decode prog_3_method_2_code 1 = .ok (.ireturn, 1) := by decide +kernel
theorem d_Sl_kind_0 : decode prog_7_method_2_code 0 = .ok (.iconst 5, 1) := by decide +kernel
theorem d_Sl_kind_1 : decode prog_7_method_2_code 1 = .ok (.ireturn, 1) := by decide +kernel
theorem d_St_kind_0 : decode prog_8_method_2_code 0 = .ok (.iconst 1, 1) := by decide +kernel
theorem d_St_kind_1 : decode prog_8_method_2_code 1 = .ok (.ireturn, 1) := by decide +kernel
theorem d_Ti_kind_0 : decode prog_10_method_2_code 0 = .ok (.iconst 3, 1) := by decide +kernel
theorem d_Ti_kind_1 : decode prog_10_method_2_code 1 = .ok (.ireturn, 1) := by decide +kernel
theorem d_To_kind_0 : decode prog_11_method_2_code 0 = .ok (.bipush 6, 2) := by decide +kernel
theorem d_To_kind_2 : decode prog_11_method_2_code 2 = .ok (.ireturn, 1) := by decide +kernel
theorem d_Ma_kind_0 : decode prog_4_method_2_code 0 = .ok (.iconst 0, 1) := by decide +kernel
theorem d_Ma_kind_1 : decode prog_4_method_2_code 1 = .ok (.ireturn, 1) := by decide +kernel
theorem d_Si_placeOf_0 : decode prog_6_method_5_code 0 = .ok (.iconst 0, 1) := by decide +kernel
theorem d_Si_placeOf_1 : decode prog_6_method_5_code 1 = .ok (.istore_n 2, 1) := by decide +kernel
theorem d_Si_placeOf_2 : decode prog_6_method_5_code 2 = .ok (.iload_n 2, 1) := by decide +kernel
theorem d_Si_placeOf_3 : decode prog_6_method_5_code 3 = .ok (.aload_n 0, 1) := by decide +kernel
theorem d_Si_placeOf_4 : decode prog_6_method_5_code 4 = .ok (.getfield 50, 3) := by decide +kernel
theorem d_Si_placeOf_7 : decode prog_6_method_5_code 7 = .ok (.if_icmp .ge 21, 3) := by decide +kernel
theorem d_Si_placeOf_10 : decode prog_6_method_5_code 10 = .ok (.aload_n 0, 1) := by decide +kernel
theorem d_Si_placeOf_11 : decode prog_6_method_5_code 11 = .ok (.getfield 27, 3) := by decide +kernel
theorem d_Si_placeOf_14 : decode prog_6_method_5_code 14 = .ok (.iload_n 2, 1) := by decide +kernel
theorem d_Si_placeOf_15 : decode prog_6_method_5_code 15 = .ok (.iaload, 1) := by decide +kernel
theorem d_Si_placeOf_16 : decode prog_6_method_5_code 16 = .ok (.iload_n 1, 1) := by decide +kernel
theorem d_Si_placeOf_17 : decode prog_6_method_5_code 17 = .ok (.if_icmp .ne 5, 3) := by decide +kernel
theorem d_Si_placeOf_20 : decode prog_6_method_5_code 20 = .ok (.iload_n 2, 1) := by decide +kernel
theorem d_Si_placeOf_21 : decode prog_6_method_5_code 21 = .ok (.ireturn, 1) := by decide +kernel
theorem d_Si_placeOf_22 : decode prog_6_method_5_code 22 = .ok (.iinc 2 1, 3) := by decide +kernel
theorem d_Si_placeOf_25 : decode prog_6_method_5_code 25 = .ok (.goto (-23), 3) := by decide +kernel
theorem d_Si_placeOf_28 : decode prog_6_method_5_code 28 = .ok (.iconst (-1), 1) := by decide +kernel
theorem d_Si_placeOf_29 : decode prog_6_method_5_code 29 = .ok (.ireturn, 1) := by decide +kernel
theorem d_Si_paceAt_0 : decode prog_6_method_11_code 0 = .ok (.iload_n 1, 1) := by decide +kernel
theorem d_Si_paceAt_1 : decode prog_6_method_11_code 1 = .ok (.ifCond .lt 11, 3) := by decide +kernel
theorem d_Si_paceAt_4 : decode prog_6_method_11_code 4 = .ok (.iload_n 1, 1) := by decide +kernel
theorem d_Si_paceAt_5 : decode prog_6_method_11_code 5 = .ok (.aload_n 0, 1) := by decide +kernel
theorem d_Si_paceAt_6 : decode prog_6_method_11_code 6 = .ok (.getfield 50, 3) := by decide +kernel
theorem d_Si_paceAt_9 : decode prog_6_method_11_code 9 = .ok (.if_icmp .lt 5, 3) := by decide +kernel
theorem d_Si_paceAt_12 : decode prog_6_method_11_code 12 = .ok (.iconst (-1), 1) := by decide +kernel
theorem d_Si_paceAt_13 : decode prog_6_method_11_code 13 = .ok (.ireturn, 1) := by decide +kernel
theorem d_Si_paceAt_14 : decode prog_6_method_11_code 14 = .ok (.aload_n 0, 1) := by decide +kernel
theorem d_Si_paceAt_15 : decode prog_6_method_11_code 15 = .ok (.getfield 27, 3) := by decide +kernel
theorem d_Si_paceAt_18 : decode prog_6_method_11_code 18 = .ok (.iload_n 1, 1) := by decide +kernel
theorem d_Si_paceAt_19 : decode prog_6_method_11_code 19 = .ok (.iaload, 1) := by decide +kernel
theorem d_Si_paceAt_20 : decode prog_6_method_11_code 20 = .ok (.istore_n 2, 1) := by decide +kernel
theorem d_Si_paceAt_21 : decode prog_6_method_11_code 21 = .ok (.aload_n 0, 1) := by decide +kernel
theorem d_Si_paceAt_22 : decode prog_6_method_11_code 22 = .ok (.getfield 36, 3) := by decide +kernel
theorem d_Si_paceAt_25 : decode prog_6_method_11_code 25 = .ok (.aload_n 0, 1) := by decide +kernel
theorem d_Si_paceAt_26 : decode prog_6_method_11_code 26 = .ok (.getfield 11, 3) := by decide +kernel
theorem d_Si_paceAt_29 : decode prog_6_method_11_code 29 = .ok (.iload_n 2, 1) := by decide +kernel
theorem d_Si_paceAt_30 : decode prog_6_method_11_code 30 = .ok (.aaload, 1) := by decide +kernel
theorem d_Si_paceAt_31 : decode prog_6_method_11_code 31 = .ok (.iload_n 1, 1) := by decide +kernel
theorem d_Si_paceAt_32 : decode prog_6_method_11_code 32 = .ok (.aload_n 0, 1) := by decide +kernel
theorem d_Si_paceAt_33 : decode prog_6_method_11_code 33 = .ok (.getfield 17, 3) := by decide +kernel
theorem d_Si_paceAt_36 : decode prog_6_method_11_code 36 = .ok (.iload_n 2, 1) := by decide +kernel
theorem d_Si_paceAt_37 : decode prog_6_method_11_code 37 = .ok (.iaload, 1) := by decide +kernel
theorem d_Si_paceAt_38 : decode prog_6_method_11_code 38 = .ok (.invokevirtual 75, 3) := by decide +kernel
theorem d_Si_paceAt_41 : decode prog_6_method_11_code 41 = .ok (.ireturn, 1) := by decide +kernel
theorem d_Sc_pace_0 : decode prog_5_method_12_code 0 = .ok (.iload_n 3, 1) := by decide +kernel
theorem d_Sc_pace_1 : decode prog_5_method_12_code 1 = .ok (.sipush 1000, 3) := by decide +kernel
theorem d_Sc_pace_4 : decode prog_5_method_12_code 4 = .ok (.if_icmp .ge 7, 3) := by decide +kernel
theorem d_Sc_pace_7 : decode prog_5_method_12_code 7 = .ok (.iload_n 3, 1) := by decide +kernel
theorem d_Sc_pace_8 : decode prog_5_method_12_code 8 = .ok (.goto 11, 3) := by decide +kernel
theorem d_Sc_pace_11 : decode prog_5_method_12_code 11 = .ok (.sipush 990, 3) := by decide +kernel
theorem d_Sc_pace_14 : decode prog_5_method_12_code 14 = .ok (.iload_n 3, 1) := by decide +kernel
theorem d_Sc_pace_15 : decode prog_5_method_12_code 15 = .ok (.bipush 10, 2) := by decide +kernel
theorem d_Sc_pace_17 : decode prog_5_method_12_code 17 = .ok (.irem, 1) := by decide +kernel
theorem d_Sc_pace_18 : decode prog_5_method_12_code 18 = .ok (.iadd, 1) := by decide +kernel
theorem d_Sc_pace_19 : decode prog_5_method_12_code 19 = .ok (.istore 4, 2) := by decide +kernel
theorem d_Sc_pace_21 : decode prog_5_method_12_code 21 = .ok (.aload_n 1, 1) := by decide +kernel
theorem d_Sc_pace_22 : decode prog_5_method_12_code 22 = .ok (.getfield 103, 3) := by decide +kernel
theorem d_Sc_pace_25 : decode prog_5_method_12_code 25 = .ok (.bipush 6, 2) := by decide +kernel
theorem d_Sc_pace_27 : decode prog_5_method_12_code 27 = .ok (.imul, 1) := by decide +kernel
theorem d_Sc_pace_28 : decode prog_5_method_12_code 28 = .ok (.iload_n 2, 1) := by decide +kernel
theorem d_Sc_pace_29 : decode prog_5_method_12_code 29 = .ok (.iadd, 1) := by decide +kernel
theorem d_Sc_pace_30 : decode prog_5_method_12_code 30 = .ok (.bipush 64, 2) := by decide +kernel
theorem d_Sc_pace_32 : decode prog_5_method_12_code 32 = .ok (.imul, 1) := by decide +kernel
theorem d_Sc_pace_33 : decode prog_5_method_12_code 33 = .ok (.iload_n 3, 1) := by decide +kernel
theorem d_Sc_pace_34 : decode prog_5_method_12_code 34 = .ok (.bipush 64, 2) := by decide +kernel
theorem d_Sc_pace_36 : decode prog_5_method_12_code 36 = .ok (.irem, 1) := by decide +kernel
theorem d_Sc_pace_37 : decode prog_5_method_12_code 37 = .ok (.iadd, 1) := by decide +kernel
theorem d_Sc_pace_38 : decode prog_5_method_12_code 38 = .ok (.istore 5, 2) := by decide +kernel
theorem d_Sc_pace_40 : decode prog_5_method_12_code 40 = .ok (.iload 5, 2) := by decide +kernel
theorem d_Sc_pace_42 : decode prog_5_method_12_code 42 = .ok (.ifCond .lt 13, 3) := by decide +kernel
theorem d_Sc_pace_45 : decode prog_5_method_12_code 45 = .ok (.iload 5, 2) := by decide +kernel
theorem d_Sc_pace_47 : decode prog_5_method_12_code 47 = .ok (.aload_n 0, 1) := by decide +kernel
theorem d_Sc_pace_48 : decode prog_5_method_12_code 48 = .ok (.getfield 34, 3) := by decide +kernel
theorem d_Sc_pace_51 : decode prog_5_method_12_code 51 = .ok (.arraylength, 1) := by decide +kernel
theorem d_Sc_pace_52 : decode prog_5_method_12_code 52 = .ok (.if_icmp .lt 11, 3) := by decide +kernel
theorem d_Sc_pace_55 : decode prog_5_method_12_code 55 = .ok (.aload_n 0, 1) := by decide +kernel
theorem d_Sc_pace_56 : decode prog_5_method_12_code 56 = .ok (.aload_n 1, 1) := by decide +kernel
theorem d_Sc_pace_57 : decode prog_5_method_12_code 57 = .ok (.iload_n 2, 1) := by decide +kernel
theorem d_Sc_pace_58 : decode prog_5_method_12_code 58 = .ok (.iload_n 3, 1) := by decide +kernel
theorem d_Sc_pace_59 : decode prog_5_method_12_code 59 = .ok (.invokevirtual 108, 3) := by decide +kernel
theorem d_Sc_pace_62 : decode prog_5_method_12_code 62 = .ok (.ireturn, 1) := by decide +kernel
theorem d_Sc_pace_63 : decode prog_5_method_12_code 63 = .ok (.aload_n 1, 1) := by decide +kernel
theorem d_Sc_pace_64 : decode prog_5_method_12_code 64 = .ok (.getfield 103, 3) := by decide +kernel
theorem d_Sc_pace_67 : decode prog_5_method_12_code 67 = .ok (.bipush 7, 2) := by decide +kernel
theorem d_Sc_pace_69 : decode prog_5_method_12_code 69 = .ok (.imul, 1) := by decide +kernel
theorem d_Sc_pace_70 : decode prog_5_method_12_code 70 = .ok (.aload_n 1, 1) := by decide +kernel
theorem d_Sc_pace_71 : decode prog_5_method_12_code 71 = .ok (.invokevirtual 112, 3) := by decide +kernel
theorem d_Sc_pace_74 : decode prog_5_method_12_code 74 = .ok (.iadd, 1) := by decide +kernel
theorem d_Sc_pace_75 : decode prog_5_method_12_code 75 = .ok (.bipush 10, 2) := by decide +kernel
theorem d_Sc_pace_77 : decode prog_5_method_12_code 77 = .ok (.imul, 1) := by decide +kernel
theorem d_Sc_pace_78 : decode prog_5_method_12_code 78 = .ok (.aload_n 1, 1) := by decide +kernel
theorem d_Sc_pace_79 : decode prog_5_method_12_code 79 = .ok (.getfield 115, 3) := by decide +kernel
theorem d_Sc_pace_82 : decode prog_5_method_12_code 82 = .ok (.iadd, 1) := by decide +kernel
theorem d_Sc_pace_83 : decode prog_5_method_12_code 83 = .ok (.bipush 6, 2) := by decide +kernel
theorem d_Sc_pace_85 : decode prog_5_method_12_code 85 = .ok (.imul, 1) := by decide +kernel
theorem d_Sc_pace_86 : decode prog_5_method_12_code 86 = .ok (.iload_n 2, 1) := by decide +kernel
theorem d_Sc_pace_87 : decode prog_5_method_12_code 87 = .ok (.iadd, 1) := by decide +kernel
theorem d_Sc_pace_88 : decode prog_5_method_12_code 88 = .ok (.i2l, 1) := by decide +kernel
theorem d_Sc_pace_89 : decode prog_5_method_12_code 89 = .ok (.lstore 6, 2) := by decide +kernel
theorem d_Sc_pace_91 : decode prog_5_method_12_code 91 = .ok (.lload 6, 2) := by decide +kernel
theorem d_Sc_pace_93 : decode prog_5_method_12_code 93 = .ok (.ldc2_w 118, 3) := by decide +kernel
theorem d_Sc_pace_96 : decode prog_5_method_12_code 96 = .ok (.lmul, 1) := by decide +kernel
theorem d_Sc_pace_97 : decode prog_5_method_12_code 97 = .ok (.iload 4, 2) := by decide +kernel
theorem d_Sc_pace_99 : decode prog_5_method_12_code 99 = .ok (.i2l, 1) := by decide +kernel
theorem d_Sc_pace_100 : decode prog_5_method_12_code 100 = .ok (.ladd, 1) := by decide +kernel
theorem d_Sc_pace_101 : decode prog_5_method_12_code 101 = .ok (.lstore 6, 2) := by decide +kernel
theorem d_Sc_pace_103 : decode prog_5_method_12_code 103 = .ok (.aload_n 0, 1) := by decide +kernel
theorem d_Sc_pace_104 : decode prog_5_method_12_code 104 = .ok (.getfield 34, 3) := by decide +kernel
theorem d_Sc_pace_107 : decode prog_5_method_12_code 107 = .ok (.iload 5, 2) := by decide +kernel
theorem d_Sc_pace_109 : decode prog_5_method_12_code 109 = .ok (.laload, 1) := by decide +kernel
theorem d_Sc_pace_110 : decode prog_5_method_12_code 110 = .ok (.ldc2_w 120, 3) := by decide +kernel
theorem d_Sc_pace_113 : decode prog_5_method_12_code 113 = .ok (.ldiv, 1) := by decide +kernel
theorem d_Sc_pace_114 : decode prog_5_method_12_code 114 = .ok (.lload 6, 2) := by decide +kernel
theorem d_Sc_pace_116 : decode prog_5_method_12_code 116 = .ok (.lcmp, 1) := by decide +kernel
theorem d_Sc_pace_117 : decode prog_5_method_12_code 117 = .ok (.ifCond .ne 32, 3) := by decide +kernel
theorem d_Sc_pace_120 : decode prog_5_method_12_code 120 = .ok (.aload_n 0, 1) := by decide +kernel
theorem d_Sc_pace_121 : decode prog_5_method_12_code 121 = .ok (.getfield 34, 3) := by decide +kernel
theorem d_Sc_pace_124 : decode prog_5_method_12_code 124 = .ok (.iload 5, 2) := by decide +kernel
theorem d_Sc_pace_126 : decode prog_5_method_12_code 126 = .ok (.laload, 1) := by decide +kernel
theorem d_Sc_pace_127 : decode prog_5_method_12_code 127 = .ok (.ldc2_w 120, 3) := by decide +kernel
theorem d_Sc_pace_130 : decode prog_5_method_12_code 130 = .ok (.lrem, 1) := by decide +kernel
theorem d_Sc_pace_131 : decode prog_5_method_12_code 131 = .ok (.lconst 0, 1) := by decide +kernel
theorem d_Sc_pace_132 : decode prog_5_method_12_code 132 = .ok (.lcmp, 1) := by decide +kernel
theorem d_Sc_pace_133 : decode prog_5_method_12_code 133 = .ok (.ifCond .eq 16, 3) := by decide +kernel
theorem d_Sc_pace_136 : decode prog_5_method_12_code 136 = .ok (.aload_n 0, 1) := by decide +kernel
theorem d_Sc_pace_137 : decode prog_5_method_12_code 137 = .ok (.getfield 34, 3) := by decide +kernel
theorem d_Sc_pace_140 : decode prog_5_method_12_code 140 = .ok (.iload 5, 2) := by decide +kernel
theorem d_Sc_pace_142 : decode prog_5_method_12_code 142 = .ok (.laload, 1) := by decide +kernel
theorem d_Sc_pace_143 : decode prog_5_method_12_code 143 = .ok (.ldc2_w 120, 3) := by decide +kernel
theorem d_Sc_pace_146 : decode prog_5_method_12_code 146 = .ok (.lrem, 1) := by decide +kernel
theorem d_Sc_pace_147 : decode prog_5_method_12_code 147 = .ok (.l2i, 1) := by decide +kernel
theorem d_Sc_pace_148 : decode prog_5_method_12_code 148 = .ok (.ireturn, 1) := by decide +kernel
theorem d_Sc_pace_149 : decode prog_5_method_12_code 149 = .ok (.aload_n 0, 1) := by decide +kernel
theorem d_Sc_pace_150 : decode prog_5_method_12_code 150 = .ok (.aload_n 1, 1) := by decide +kernel
theorem d_Sc_pace_151 : decode prog_5_method_12_code 151 = .ok (.iload_n 2, 1) := by decide +kernel
theorem d_Sc_pace_152 : decode prog_5_method_12_code 152 = .ok (.iload_n 3, 1) := by decide +kernel
theorem d_Sc_pace_153 : decode prog_5_method_12_code 153 = .ok (.invokevirtual 108, 3) := by decide +kernel
theorem d_Sc_pace_156 : decode prog_5_method_12_code 156 = .ok (.istore 8, 2) := by decide +kernel
theorem d_Sc_pace_158 : decode prog_5_method_12_code 158 = .ok (.aload_n 0, 1) := by decide +kernel
theorem d_Sc_pace_159 : decode prog_5_method_12_code 159 = .ok (.getfield 34, 3) := by decide +kernel
theorem d_Sc_pace_162 : decode prog_5_method_12_code 162 = .ok (.iload 5, 2) := by decide +kernel
theorem d_Sc_pace_164 : decode prog_5_method_12_code 164 = .ok (.lload 6, 2) := by decide +kernel
theorem d_Sc_pace_166 : decode prog_5_method_12_code 166 = .ok (.ldc2_w 120, 3) := by decide +kernel
theorem d_Sc_pace_169 : decode prog_5_method_12_code 169 = .ok (.lmul, 1) := by decide +kernel
theorem d_Sc_pace_170 : decode prog_5_method_12_code 170 = .ok (.iload 8, 2) := by decide +kernel
theorem d_Sc_pace_172 : decode prog_5_method_12_code 172 = .ok (.i2l, 1) := by decide +kernel
theorem d_Sc_pace_173 : decode prog_5_method_12_code 173 = .ok (.ladd, 1) := by decide +kernel
theorem d_Sc_pace_174 : decode prog_5_method_12_code 174 = .ok (.lastore, 1) := by decide +kernel
theorem d_Sc_pace_175 : decode prog_5_method_12_code 175 = .ok (.iload 8, 2) := by decide +kernel
theorem d_Sc_pace_177 : decode prog_5_method_12_code 177 = .ok (.ireturn, 1) := by decide +kernel
theorem d_Sc_reckonPace_0 : decode prog_5_method_13_code 0 = .ok (.aload_n 0, 1) := by decide +kernel
theorem d_Sc_reckonPace_1 : decode prog_5_method_13_code 1 = .ok (.getfield 15, 3) := by decide +kernel
theorem d_Sc_reckonPace_4 : decode prog_5_method_13_code 4 = .ok (.iconst 0, 1) := by decide +kernel
theorem d_Sc_reckonPace_5 : decode prog_5_method_13_code 5 = .ok (.aload_n 1, 1) := by decide +kernel
theorem d_Sc_reckonPace_6 : decode prog_5_method_13_code 6 = .ok (.getfield 103, 3) := by decide +kernel
theorem d_Sc_reckonPace_9 : decode prog_5_method_13_code 9 = .ok (.iastore, 1) := by decide +kernel
theorem d_Sc_reckonPace_10 : decode prog_5_method_13_code 10 = .ok (.aload_n 0, 1) := by decide +kernel
theorem d_Sc_reckonPace_11 : decode prog_5_method_13_code 11 = .ok (.getfield 15, 3) := by decide +kernel
theorem d_Sc_reckonPace_14 : decode prog_5_method_13_code 14 = .ok (.iconst 1, 1) := by decide +kernel
theorem d_Sc_reckonPace_15 : decode prog_5_method_13_code 15 = .ok (.aload_n 1, 1) := by decide +kernel
theorem d_Sc_reckonPace_16 : decode prog_5_method_13_code 16 = .ok (.invokevirtual 112, 3) := by decide +kernel
theorem d_Sc_reckonPace_19 : decode prog_5_method_13_code 19 = .ok (.iastore, 1) := by decide +kernel
theorem d_Sc_reckonPace_20 : decode prog_5_method_13_code 20 = .ok (.aload_n 0, 1) := by decide +kernel
theorem d_Sc_reckonPace_21 : decode prog_5_method_13_code 21 = .ok (.getfield 15, 3) := by decide +kernel
theorem d_Sc_reckonPace_24 : decode prog_5_method_13_code 24 = .ok (.iconst 2, 1) := by decide +kernel
theorem d_Sc_reckonPace_25 : decode prog_5_method_13_code 25 = .ok (.iload_n 2, 1) := by decide +kernel
theorem d_Sc_reckonPace_26 : decode prog_5_method_13_code 26 = .ok (.iastore, 1) := by decide +kernel
theorem d_Sc_reckonPace_27 : decode prog_5_method_13_code 27 = .ok (.aload_n 0, 1) := by decide +kernel
theorem d_Sc_reckonPace_28 : decode prog_5_method_13_code 28 = .ok (.getfield 15, 3) := by decide +kernel
theorem d_Sc_reckonPace_31 : decode prog_5_method_13_code 31 = .ok (.iconst 3, 1) := by decide +kernel
theorem d_Sc_reckonPace_32 : decode prog_5_method_13_code 32 = .ok (.iload_n 3, 1) := by decide +kernel
theorem d_Sc_reckonPace_33 : decode prog_5_method_13_code 33 = .ok (.bipush 10, 2) := by decide +kernel
theorem d_Sc_reckonPace_35 : decode prog_5_method_13_code 35 = .ok (.irem, 1) := by decide +kernel
theorem d_Sc_reckonPace_36 : decode prog_5_method_13_code 36 = .ok (.iastore, 1) := by decide +kernel
theorem d_Sc_reckonPace_37 : decode prog_5_method_13_code 37 = .ok (.aload_n 0, 1) := by decide +kernel
theorem d_Sc_reckonPace_38 : decode prog_5_method_13_code 38 = .ok (.getfield 15, 3) := by decide +kernel
theorem d_Sc_reckonPace_41 : decode prog_5_method_13_code 41 = .ok (.iconst 4, 1) := by decide +kernel
theorem d_Sc_reckonPace_42 : decode prog_5_method_13_code 42 = .ok (.bipush 99, 2) := by decide +kernel
theorem d_Sc_reckonPace_44 : decode prog_5_method_13_code 44 = .ok (.iload_n 3, 1) := by decide +kernel
theorem d_Sc_reckonPace_45 : decode prog_5_method_13_code 45 = .ok (.bipush 10, 2) := by decide +kernel
theorem d_Sc_reckonPace_47 : decode prog_5_method_13_code 47 = .ok (.idiv, 1) := by decide +kernel
theorem d_Sc_reckonPace_48 : decode prog_5_method_13_code 48 = .ok (.invokestatic 42, 3) := by decide +kernel
theorem d_Sc_reckonPace_51 : decode prog_5_method_13_code 51 = .ok (.iastore, 1) := by decide +kernel
theorem d_Sc_reckonPace_52 : decode prog_5_method_13_code 52 = .ok (.aload_n 0, 1) := by decide +kernel
theorem d_Sc_reckonPace_53 : decode prog_5_method_13_code 53 = .ok (.getfield 15, 3) := by decide +kernel
theorem d_Sc_reckonPace_56 : decode prog_5_method_13_code 56 = .ok (.iconst 5, 1) := by decide +kernel
theorem d_Sc_reckonPace_57 : decode prog_5_method_13_code 57 = .ok (.aload_n 1, 1) := by decide +kernel
theorem d_Sc_reckonPace_58 : decode prog_5_method_13_code 58 = .ok (.getfield 115, 3) := by decide +kernel
theorem d_Sc_reckonPace_61 : decode prog_5_method_13_code 61 = .ok (.iastore, 1) := by decide +kernel
theorem d_Sc_reckonPace_62 : decode prog_5_method_13_code 62 = .ok (.bipush 8, 2) := by decide +kernel
theorem d_Sc_reckonPace_64 : decode prog_5_method_13_code 64 = .ok (.istore 4, 2) := by decide +kernel
theorem d_Sc_reckonPace_66 : decode prog_5_method_13_code 66 = .ok (.iconst 0, 1) := by decide +kernel
theorem d_Sc_reckonPace_67 : decode prog_5_method_13_code 67 = .ok (.istore 5, 2) := by decide +kernel
theorem d_Sc_reckonPace_69 : decode prog_5_method_13_code 69 = .ok (.iconst 0, 1) := by decide +kernel
theorem d_Sc_reckonPace_70 : decode prog_5_method_13_code 70 = .ok (.istore 6, 2) := by decide +kernel
theorem d_Sc_reckonPace_72 : decode prog_5_method_13_code 72 = .ok (.iload 6, 2) := by decide +kernel
theorem d_Sc_reckonPace_74 : decode prog_5_method_13_code 74 = .ok (.aload_n 0, 1) := by decide +kernel
theorem d_Sc_reckonPace_75 : decode prog_5_method_13_code 75 = .ok (.getfield 51, 3) := by decide +kernel
theorem d_Sc_reckonPace_78 : decode prog_5_method_13_code 78 = .ok (.if_icmp .ge 144, 3) := by decide +kernel
theorem d_Sc_reckonPace_81 : decode prog_5_method_13_code 81 = .ok (.iload 6, 2) := by decide +kernel
theorem d_Sc_reckonPace_83 : decode prog_5_method_13_code 83 = .ok (.aload_n 0, 1) := by decide +kernel
theorem d_Sc_reckonPace_84 : decode prog_5_method_13_code 84 = .ok (.getfield 9, 3) := by decide +kernel
theorem d_Sc_reckonPace_87 : decode prog_5_method_13_code 87 = .ok (.arraylength, 1) := by decide +kernel
theorem d_Sc_reckonPace_88 : decode prog_5_method_13_code 88 = .ok (.if_icmp .ge 134, 3) := by decide +kernel
theorem d_Sc_reckonPace_91 : decode prog_5_method_13_code 91 = .ok (.aload_n 0, 1) := by decide +kernel
theorem d_Sc_reckonPace_92 : decode prog_5_method_13_code 92 = .ok (.getfield 9, 3) := by decide +kernel
theorem d_Sc_reckonPace_95 : decode prog_5_method_13_code 95 = .ok (.iload 6, 2) := by decide +kernel
theorem d_Sc_reckonPace_97 : decode prog_5_method_13_code 97 = .ok (.iaload, 1) := by decide +kernel
theorem d_Sc_reckonPace_98 : decode prog_5_method_13_code 98 = .ok (.istore 7, 2) := by decide +kernel
theorem d_Sc_reckonPace_100 : decode prog_5_method_13_code 100 = .ok (.iload 7, 2) := by decide +kernel
theorem d_Sc_reckonPace_102 : decode prog_5_method_13_code 102 = .ok (.ifCond .lt 19, 3) := by decide +kernel
theorem d_Sc_reckonPace_105 : decode prog_5_method_13_code 105 = .ok (.iload 5, 2) := by decide +kernel
theorem d_Sc_reckonPace_107 : decode prog_5_method_13_code 107 = .ok (.iconst 1, 1) := by decide +kernel
theorem d_Sc_reckonPace_108 : decode prog_5_method_13_code 108 = .ok (.ishl, 1) := by decide +kernel
theorem d_Sc_reckonPace_109 : decode prog_5_method_13_code 109 = .ok (.aload_n 0, 1) := by decide +kernel
theorem d_Sc_reckonPace_110 : decode prog_5_method_13_code 110 = .ok (.iload 7, 2) := by decide +kernel
theorem d_Sc_reckonPace_112 : decode prog_5_method_13_code 112 = .ok (.invokevirtual 122, 3) := by decide +kernel
theorem d_Sc_reckonPace_115 : decode prog_5_method_13_code 115 = .ok (.ior, 1) := by decide +kernel
theorem d_Sc_reckonPace_116 : decode prog_5_method_13_code 116 = .ok (.istore 5, 2) := by decide +kernel
theorem d_Sc_reckonPace_118 : decode prog_5_method_13_code 118 = .ok (.goto 98, 3) := by decide +kernel
theorem d_Sc_reckonPace_121 : decode prog_5_method_13_code 121 = .ok (.iload 7, 2) := by decide +kernel
theorem d_Sc_reckonPace_123 : decode prog_5_method_13_code 123 = .ok (.iconst (-1), 1) := by decide +kernel
theorem d_Sc_reckonPace_124 : decode prog_5_method_13_code 124 = .ok (.if_icmp .ne 12, 3) := by decide +kernel
theorem d_Sc_reckonPace_127 : decode prog_5_method_13_code 127 = .ok (.iload 5, 2) := by decide +kernel
theorem d_Sc_reckonPace_129 : decode prog_5_method_13_code 129 = .ok (.iconst 1, 1) := by decide +kernel
theorem d_Sc_reckonPace_130 : decode prog_5_method_13_code 130 = .ok (.ixor, 1) := by decide +kernel
theorem d_Sc_reckonPace_131 : decode prog_5_method_13_code 131 = .ok (.istore 5, 2) := by decide +kernel
theorem d_Sc_reckonPace_133 : decode prog_5_method_13_code 133 = .ok (.goto 83, 3) := by decide +kernel
theorem d_Sc_reckonPace_136 : decode prog_5_method_13_code 136 = .ok (.iload 7, 2) := by decide +kernel
theorem d_Sc_reckonPace_138 : decode prog_5_method_13_code 138 = .ok (.bipush (-2), 2) := by decide +kernel
theorem d_Sc_reckonPace_140 : decode prog_5_method_13_code 140 = .ok (.if_icmp .ne 18, 3) := by decide +kernel
theorem d_Sc_reckonPace_143 : decode prog_5_method_13_code 143 = .ok (.iload 5, 2) := by decide +kernel
theorem d_Sc_reckonPace_145 : decode prog_5_method_13_code 145 = .ok (.iconst 1, 1) := by decide +kernel
theorem d_Sc_reckonPace_146 : decode prog_5_method_13_code 146 = .ok (.ishr, 1) := by decide +kernel
theorem d_Sc_reckonPace_147 : decode prog_5_method_13_code 147 = .ok (.iload 5, 2) := by decide +kernel
theorem d_Sc_reckonPace_149 : decode prog_5_method_13_code 149 = .ok (.bipush (-2), 2) := by decide +kernel
theorem d_Sc_reckonPace_151 : decode prog_5_method_13_code 151 = .ok (.ior, 1) := by decide +kernel
theorem d_Sc_reckonPace_152 : decode prog_5_method_13_code 152 = .ok (.iand, 1) := by decide +kernel
theorem d_Sc_reckonPace_153 : decode prog_5_method_13_code 153 = .ok (.istore 5, 2) := by decide +kernel
theorem d_Sc_reckonPace_155 : decode prog_5_method_13_code 155 = .ok (.goto 61, 3) := by decide +kernel
theorem d_Sc_reckonPace_158 : decode prog_5_method_13_code 158 = .ok (.iload 7, 2) := by decide +kernel
theorem d_Sc_reckonPace_160 : decode prog_5_method_13_code 160 = .ok (.bipush (-3), 2) := by decide +kernel
theorem d_Sc_reckonPace_162 : decode prog_5_method_13_code 162 = .ok (.if_icmp .ne 17, 3) := by decide +kernel
theorem d_Sc_reckonPace_165 : decode prog_5_method_13_code 165 = .ok (.iload 5, 2) := by decide +kernel
theorem d_Sc_reckonPace_167 : decode prog_5_method_13_code 167 = .ok (.iconst 1, 1) := by decide +kernel
theorem d_Sc_reckonPace_168 : decode prog_5_method_13_code 168 = .ok (.ishr, 1) := by decide +kernel
theorem d_Sc_reckonPace_169 : decode prog_5_method_13_code 169 = .ok (.iload 5, 2) := by decide +kernel
theorem d_Sc_reckonPace_171 : decode prog_5_method_13_code 171 = .ok (.iconst 1, 1) := by decide +kernel
theorem d_Sc_reckonPace_172 : decode prog_5_method_13_code 172 = .ok (.iand, 1) := by decide +kernel
theorem d_Sc_reckonPace_173 : decode prog_5_method_13_code 173 = .ok (.ior, 1) := by decide +kernel
theorem d_Sc_reckonPace_174 : decode prog_5_method_13_code 174 = .ok (.istore 5, 2) := by decide +kernel
theorem d_Sc_reckonPace_176 : decode prog_5_method_13_code 176 = .ok (.goto 40, 3) := by decide +kernel
theorem d_Sc_reckonPace_179 : decode prog_5_method_13_code 179 = .ok (.iload 7, 2) := by decide +kernel
theorem d_Sc_reckonPace_181 : decode prog_5_method_13_code 181 = .ok (.sipush (-300), 3) := by decide +kernel
theorem d_Sc_reckonPace_184 : decode prog_5_method_13_code 184 = .ok (.if_icmp .le 11, 3) := by decide +kernel
theorem d_Sc_reckonPace_187 : decode prog_5_method_13_code 187 = .ok (.bipush (-100), 2) := by decide +kernel
theorem d_Sc_reckonPace_189 : decode prog_5_method_13_code 189 = .ok (.iload 7, 2) := by decide +kernel
theorem d_Sc_reckonPace_191 : decode prog_5_method_13_code 191 = .ok (.isub, 1) := by decide +kernel
theorem d_Sc_reckonPace_192 : decode prog_5_method_13_code 192 = .ok (.goto 9, 3) := by decide +kernel
theorem d_Sc_reckonPace_195 : decode prog_5_method_13_code 195 = .ok (.iload 7, 2) := by decide +kernel
theorem d_Sc_reckonPace_197 : decode prog_5_method_13_code 197 = .ok (.sipush (-300), 3) := by decide +kernel
theorem d_Sc_reckonPace_200 : decode prog_5_method_13_code 200 = .ok (.isub, 1) := by decide +kernel
theorem d_Sc_reckonPace_201 : decode prog_5_method_13_code 201 = .ok (.istore 8, 2) := by decide +kernel
theorem d_Sc_reckonPace_203 : decode prog_5_method_13_code 203 = .ok (.iload 4, 2) := by decide +kernel
theorem d_Sc_reckonPace_205 : decode prog_5_method_13_code 205 = .ok (.iload 5, 2) := by decide +kernel
theorem d_Sc_reckonPace_207 : decode prog_5_method_13_code 207 = .ok (.iload 8, 2) := by decide +kernel
theorem d_Sc_reckonPace_209 : decode prog_5_method_13_code 209 = .ok (.imul, 1) := by decide +kernel
theorem d_Sc_reckonPace_210 : decode prog_5_method_13_code 210 = .ok (.iadd, 1) := by decide +kernel
theorem d_Sc_reckonPace_211 : decode prog_5_method_13_code 211 = .ok (.istore 4, 2) := by decide +kernel
theorem d_Sc_reckonPace_213 : decode prog_5_method_13_code 213 = .ok (.iconst 0, 1) := by decide +kernel
theorem d_Sc_reckonPace_214 : decode prog_5_method_13_code 214 = .ok (.istore 5, 2) := by decide +kernel
theorem d_Sc_reckonPace_216 : decode prog_5_method_13_code 216 = .ok (.iinc 6 1, 3) := by decide +kernel
theorem d_Sc_reckonPace_219 : decode prog_5_method_13_code 219 = .ok (.goto (-147), 3) := by decide +kernel
theorem d_Sc_reckonPace_222 : decode prog_5_method_13_code 222 = .ok (.iconst 1, 1) := by decide +kernel
theorem d_Sc_reckonPace_223 : decode prog_5_method_13_code 223 = .ok (.iload 4, 2) := by decide +kernel
theorem d_Sc_reckonPace_225 : decode prog_5_method_13_code 225 = .ok (.invokestatic 28, 3) := by decide +kernel
theorem d_Sc_reckonPace_228 : decode prog_5_method_13_code 228 = .ok (.ireturn, 1) := by decide +kernel
theorem d_Sc_test_0 : decode prog_5_method_14_code 0 = .ok (.aload_n 0, 1) := by decide +kernel
theorem d_Sc_test_1 : decode prog_5_method_14_code 1 = .ok (.getfield 15, 3) := by decide +kernel
theorem d_Sc_test_4 : decode prog_5_method_14_code 4 = .ok (.iload_n 1, 1) := by decide +kernel
theorem d_Sc_test_5 : decode prog_5_method_14_code 5 = .ok (.sipush 300, 3) := by decide +kernel
theorem d_Sc_test_8 : decode prog_5_method_14_code 8 = .ok (.idiv, 1) := by decide +kernel
theorem d_Sc_test_9 : decode prog_5_method_14_code 9 = .ok (.aload_n 0, 1) := by decide +kernel
theorem d_Sc_test_10 : decode prog_5_method_14_code 10 = .ok (.getfield 15, 3) := by decide +kernel
theorem d_Sc_test_13 : decode prog_5_method_14_code 13 = .ok (.arraylength, 1) := by decide +kernel
theorem d_Sc_test_14 : decode prog_5_method_14_code 14 = .ok (.irem, 1) := by decide +kernel
theorem d_Sc_test_15 : decode prog_5_method_14_code 15 = .ok (.iaload, 1) := by decide +kernel
theorem d_Sc_test_16 : decode prog_5_method_14_code 16 = .ok (.istore_n 2, 1) := by decide +kernel
theorem d_Sc_test_17 : decode prog_5_method_14_code 17 = .ok (.iload_n 1, 1) := by decide +kernel
theorem d_Sc_test_18 : decode prog_5_method_14_code 18 = .ok (.bipush 100, 2) := by decide +kernel
theorem d_Sc_test_20 : decode prog_5_method_14_code 20 = .ok (.irem, 1) := by decide +kernel
theorem d_Sc_test_21 : decode prog_5_method_14_code 21 = .ok (.istore_n 3, 1) := by decide +kernel
theorem d_Sc_test_22 : decode prog_5_method_14_code 22 = .ok (.iload_n 1, 1) := by decide +kernel
theorem d_Sc_test_23 : decode prog_5_method_14_code 23 = .ok (.bipush 100, 2) := by decide +kernel
theorem d_Sc_test_25 : decode prog_5_method_14_code 25 = .ok (.idiv, 1) := by decide +kernel
theorem d_Sc_test_26 : decode prog_5_method_14_code 26 = .ok (.iconst 3, 1) := by decide +kernel
theorem d_Sc_test_27 : decode prog_5_method_14_code 27 = .ok (.irem, 1) := by decide +kernel
theorem d_Sc_test_28 : decode prog_5_method_14_code 28 = .ok (.lookupswitch 50 #[(0, 28), (1, 39)], 28) := by decide +kernel
theorem d_Sc_test_56 : decode prog_5_method_14_code 56 = .ok (.iload_n 2, 1) := by decide +kernel
theorem d_Sc_test_57 : decode prog_5_method_14_code 57 = .ok (.iload_n 3, 1) := by decide +kernel
theorem d_Sc_test_58 : decode prog_5_method_14_code 58 = .ok (.if_icmp .ge 7, 3) := by decide +kernel
theorem d_Sc_test_61 : decode prog_5_method_14_code 61 = .ok (.iconst 1, 1) := by decide +kernel
theorem d_Sc_test_62 : decode prog_5_method_14_code 62 = .ok (.goto 4, 3) := by decide +kernel
theorem d_Sc_test_65 : decode prog_5_method_14_code 65 = .ok (.iconst 0, 1) := by decide +kernel
theorem d_Sc_test_66 : decode prog_5_method_14_code 66 = .ok (.ireturn, 1) := by decide +kernel
theorem d_Sc_test_67 : decode prog_5_method_14_code 67 = .ok (.iload_n 2, 1) := by decide +kernel
theorem d_Sc_test_68 : decode prog_5_method_14_code 68 = .ok (.iload_n 3, 1) := by decide +kernel
theorem d_Sc_test_69 : decode prog_5_method_14_code 69 = .ok (.if_icmp .ne 7, 3) := by decide +kernel
theorem d_Sc_test_72 : decode prog_5_method_14_code 72 = .ok (.iconst 1, 1) := by decide +kernel
theorem d_Sc_test_73 : decode prog_5_method_14_code 73 = .ok (.goto 4, 3) := by decide +kernel
theorem d_Sc_test_76 : decode prog_5_method_14_code 76 = .ok (.iconst 0, 1) := by decide +kernel
theorem d_Sc_test_77 : decode prog_5_method_14_code 77 = .ok (.ireturn, 1) := by decide +kernel
theorem d_Sc_test_78 : decode prog_5_method_14_code 78 = .ok (.iload_n 2, 1) := by decide +kernel
theorem d_Sc_test_79 : decode prog_5_method_14_code 79 = .ok (.iload_n 3, 1) := by decide +kernel
theorem d_Sc_test_80 : decode prog_5_method_14_code 80 = .ok (.if_icmp .le 7, 3) := by decide +kernel
theorem d_Sc_test_83 : decode prog_5_method_14_code 83 = .ok (.iconst 1, 1) := by decide +kernel
theorem d_Sc_test_84 : decode prog_5_method_14_code 84 = .ok (.goto 4, 3) := by decide +kernel
theorem d_Sc_test_87 : decode prog_5_method_14_code 87 = .ok (.iconst 0, 1) := by decide +kernel
theorem d_Sc_test_88 : decode prog_5_method_14_code 88 = .ok (.ireturn, 1) := by decide +kernel
theorem d_Si_holdsAt_0 : decode prog_6_method_12_code 0 = .ok (.iload_n 1, 1) := by decide +kernel
theorem d_Si_holdsAt_1 : decode prog_6_method_12_code 1 = .ok (.ifCond .lt 11, 3) := by decide +kernel
theorem d_Si_holdsAt_4 : decode prog_6_method_12_code 4 = .ok (.iload_n 1, 1) := by decide +kernel
theorem d_Si_holdsAt_5 : decode prog_6_method_12_code 5 = .ok (.aload_n 0, 1) := by decide +kernel
theorem d_Si_holdsAt_6 : decode prog_6_method_12_code 6 = .ok (.getfield 50, 3) := by decide +kernel
theorem d_Si_holdsAt_9 : decode prog_6_method_12_code 9 = .ok (.if_icmp .lt 5, 3) := by decide +kernel
theorem d_Si_holdsAt_12 : decode prog_6_method_12_code 12 = .ok (.iconst (-1), 1) := by decide +kernel
theorem d_Si_holdsAt_13 : decode prog_6_method_12_code 13 = .ok (.ireturn, 1) := by decide +kernel
theorem d_Si_holdsAt_14 : decode prog_6_method_12_code 14 = .ok (.aload_n 0, 1) := by decide +kernel
theorem d_Si_holdsAt_15 : decode prog_6_method_12_code 15 = .ok (.getfield 27, 3) := by decide +kernel
theorem d_Si_holdsAt_18 : decode prog_6_method_12_code 18 = .ok (.iload_n 1, 1) := by decide +kernel
theorem d_Si_holdsAt_19 : decode prog_6_method_12_code 19 = .ok (.iaload, 1) := by decide +kernel
theorem d_Si_holdsAt_20 : decode prog_6_method_12_code 20 = .ok (.istore_n 2, 1) := by decide +kernel
theorem d_Si_holdsAt_21 : decode prog_6_method_12_code 21 = .ok (.aload_n 0, 1) := by decide +kernel
theorem d_Si_holdsAt_22 : decode prog_6_method_12_code 22 = .ok (.getfield 36, 3) := by decide +kernel
theorem d_Si_holdsAt_25 : decode prog_6_method_12_code 25 = .ok (.aload_n 0, 1) := by decide +kernel
theorem d_Si_holdsAt_26 : decode prog_6_method_12_code 26 = .ok (.getfield 11, 3) := by decide +kernel
theorem d_Si_holdsAt_29 : decode prog_6_method_12_code 29 = .ok (.iload_n 2, 1) := by decide +kernel
theorem d_Si_holdsAt_30 : decode prog_6_method_12_code 30 = .ok (.aaload, 1) := by decide +kernel
theorem d_Si_holdsAt_31 : decode prog_6_method_12_code 31 = .ok (.iload_n 1, 1) := by decide +kernel
theorem d_Si_holdsAt_32 : decode prog_6_method_12_code 32 = .ok (.aload_n 0, 1) := by decide +kernel
theorem d_Si_holdsAt_33 : decode prog_6_method_12_code 33 = .ok (.getfield 17, 3) := by decide +kernel
theorem d_Si_holdsAt_36 : decode prog_6_method_12_code 36 = .ok (.iload_n 2, 1) := by decide +kernel
theorem d_Si_holdsAt_37 : decode prog_6_method_12_code 37 = .ok (.iaload, 1) := by decide +kernel
theorem d_Si_holdsAt_38 : decode prog_6_method_12_code 38 = .ok (.invokevirtual 75, 3) := by decide +kernel
theorem d_Si_holdsAt_41 : decode prog_6_method_12_code 41 = .ok (.istore_n 3, 1) := by decide +kernel
theorem d_Si_holdsAt_42 : decode prog_6_method_12_code 42 = .ok (.aload_n 0, 1) := by decide +kernel
theorem d_Si_holdsAt_43 : decode prog_6_method_12_code 43 = .ok (.getfield 11, 3) := by decide +kernel
theorem d_Si_holdsAt_46 : decode prog_6_method_12_code 46 = .ok (.iload_n 2, 1) := by decide +kernel
theorem d_Si_holdsAt_47 : decode prog_6_method_12_code 47 = .ok (.aaload, 1) := by decide +kernel
theorem d_Si_holdsAt_48 : decode prog_6_method_12_code 48 = .ok (.iload_n 3, 1) := by decide +kernel
theorem d_Si_holdsAt_49 : decode prog_6_method_12_code 49 = .ok (.aload_n 0, 1) := by decide +kernel
theorem d_Si_holdsAt_50 : decode prog_6_method_12_code 50 = .ok (.getfield 17, 3) := by decide +kernel
theorem d_Si_holdsAt_53 : decode prog_6_method_12_code 53 = .ok (.iload_n 2, 1) := by decide +kernel
theorem d_Si_holdsAt_54 : decode prog_6_method_12_code 54 = .ok (.iaload, 1) := by decide +kernel
theorem d_Si_holdsAt_55 : decode prog_6_method_12_code 55 = .ok (.aload_n 0, 1) := by decide +kernel
theorem d_Si_holdsAt_56 : decode prog_6_method_12_code 56 = .ok (.getfield 24, 3) := by decide +kernel
theorem d_Si_holdsAt_59 : decode prog_6_method_12_code 59 = .ok (.iload_n 2, 1) := by decide +kernel
theorem d_Si_holdsAt_60 : decode prog_6_method_12_code 60 = .ok (.iconst 4, 1) := by decide +kernel
theorem d_Si_holdsAt_61 : decode prog_6_method_12_code 61 = .ok (.imul, 1) := by decide +kernel
theorem d_Si_holdsAt_62 : decode prog_6_method_12_code 62 = .ok (.aload_n 0, 1) := by decide +kernel
theorem d_Si_holdsAt_63 : decode prog_6_method_12_code 63 = .ok (.getfield 17, 3) := by decide +kernel
theorem d_Si_holdsAt_66 : decode prog_6_method_12_code 66 = .ok (.iload_n 2, 1) := by decide +kernel
theorem d_Si_holdsAt_67 : decode prog_6_method_12_code 67 = .ok (.iaload, 1) := by decide +kernel
theorem d_Si_holdsAt_68 : decode prog_6_method_12_code 68 = .ok (.iconst 4, 1) := by decide +kernel
theorem d_Si_holdsAt_69 : decode prog_6_method_12_code 69 = .ok (.irem, 1) := by decide +kernel
theorem d_Si_holdsAt_70 : decode prog_6_method_12_code 70 = .ok (.iadd, 1) := by decide +kernel
theorem d_Si_holdsAt_71 : decode prog_6_method_12_code 71 = .ok (.iaload, 1) := by decide +kernel
theorem d_Si_holdsAt_72 : decode prog_6_method_12_code 72 = .ok (.invokevirtual 81, 3) := by decide +kernel
theorem d_Si_holdsAt_75 : decode prog_6_method_12_code 75 = .ok (.ireturn, 1) := by decide +kernel
theorem d_Ca_holds_0 : decode prog_2_method_3_code 0 = .ok (.iconst 1, 1) := by decide +kernel
theorem d_Ca_holds_1 : decode prog_2_method_3_code 1 = .ok (.aload_n 0, 1) := by decide +kernel
theorem d_Ca_holds_2 : decode prog_2_method_3_code 2 = .ok (.iload_n 1, 1) := by decide +kernel
theorem d_Ca_holds_3 : decode prog_2_method_3_code 3 = .ok (.iload_n 2, 1) := by decide +kernel
theorem d_Ca_holds_4 : decode prog_2_method_3_code 4 = .ok (.iload_n 3, 1) := by decide +kernel
theorem d_Ca_holds_5 : decode prog_2_method_3_code 5 = .ok (.invokespecial 7, 3) := by decide +kernel
theorem d_Ca_holds_8 : decode prog_2_method_3_code 8 = .ok (.iconst 2, 1) := by decide +kernel
theorem d_Ca_holds_9 : decode prog_2_method_3_code 9 = .ok (.idiv, 1) := by decide +kernel
theorem d_Ca_holds_10 : decode prog_2_method_3_code 10 = .ok (.invokestatic 11, 3) := by decide +kernel
theorem d_Ca_holds_13 : decode prog_2_method_3_code 13 = .ok (.ireturn, 1) := by decide +kernel
theorem d_St_holds_0 : decode prog_8_method_3_code 0 = .ok (.iconst 1, 1) := by decide +kernel
theorem d_St_holds_1 : decode prog_8_method_3_code 1 = .ok (.iload_n 1, 1) := by decide +kernel
theorem d_St_holds_2 : decode prog_8_method_3_code 2 = .ok (.aload_n 0, 1) := by decide +kernel
theorem d_St_holds_3 : decode prog_8_method_3_code 3 = .ok (.getfield 7, 3) := by decide +kernel
theorem d_St_holds_6 : decode prog_8_method_3_code 6 = .ok (.iconst 2, 1) := by decide +kernel
theorem d_St_holds_7 : decode prog_8_method_3_code 7 = .ok (.idiv, 1) := by decide +kernel
theorem d_St_holds_8 : decode prog_8_method_3_code 8 = .ok (.isub, 1) := by decide +kernel
theorem d_St_holds_9 : decode prog_8_method_3_code 9 = .ok (.invokestatic 13, 3) := by decide +kernel
theorem d_St_holds_12 : decode prog_8_method_3_code 12 = .ok (.ireturn, 1) := by decide +kernel
theorem d_Gl_holds_0 : decode prog_3_method_3_code 0 = .ok (.iload_n 1, 1) := by decide +kernel
theorem d_Gl_holds_1 : decode prog_3_method_3_code 1 = .ok (.iconst 2, 1) := by decide +kernel
theorem d_Gl_holds_2 : decode prog_3_method_3_code 2 = .ok (.iadd, 1) := by decide +kernel
theorem d_Gl_holds_3 : decode prog_3_method_3_code 3 = .ok (.ireturn, 1) := by decide +kernel
theorem d_Ti_holds_0 : decode prog_10_method_3_code 0 = .ok (.iload_n 1, 1) := by decide +kernel
theorem d_Ti_holds_1 : decode prog_10_method_3_code 1 = .ok (.iload_n 2, 1) := by decide +kernel
theorem d_Ti_holds_2 : decode prog_10_method_3_code 2 = .ok (.bipush 8, 2) := by decide +kernel
theorem d_Ti_holds_4 : decode prog_10_method_3_code 4 = .ok (.idiv, 1) := by decide +kernel
theorem d_Ti_holds_5 : decode prog_10_method_3_code 5 = .ok (.iadd, 1) := by decide +kernel
theorem d_Ti_holds_6 : decode prog_10_method_3_code 6 = .ok (.ireturn, 1) := by decide +kernel
theorem d_To_holds_0 : decode prog_11_method_3_code 0 = .ok (.aload_n 0, 1) := by decide +kernel
theorem d_To_holds_1 : decode prog_11_method_3_code 1 = .ok (.iload_n 1, 1) := by decide +kernel
theorem d_To_holds_2 : decode prog_11_method_3_code 2 = .ok (.iload_n 2, 1) := by decide +kernel
theorem d_To_holds_3 : decode prog_11_method_3_code 3 = .ok (.iload_n 3, 1) := by decide +kernel
theorem d_To_holds_4 : decode prog_11_method_3_code 4 = .ok (.invokespecial 7, 3) := by decide +kernel
theorem d_To_holds_7 : decode prog_11_method_3_code 7 = .ok (.iload_n 3, 1) := by decide +kernel
theorem d_To_holds_8 : decode prog_11_method_3_code 8 = .ok (.iadd, 1) := by decide +kernel
theorem d_To_holds_9 : decode prog_11_method_3_code 9 = .ok (.ireturn, 1) := by decide +kernel
theorem d_Ma_holds_0 : decode prog_4_method_3_code 0 = .ok (.iload_n 1, 1) := by decide +kernel
theorem d_Ma_holds_1 : decode prog_4_method_3_code 1 = .ok (.ireturn, 1) := by decide +kernel
theorem d_TC_held_0 : decode prog_1_method_5_code 0 = .ok (.aload_n 0, 1) := by decide +kernel
theorem d_TC_held_1 : decode prog_1_method_5_code 1 = .ok (.iload_n 1, 1) := by decide +kernel
theorem d_TC_held_2 : decode prog_1_method_5_code 2 = .ok (.invokevirtual 97, 3) := by decide +kernel
theorem d_TC_held_5 : decode prog_1_method_5_code 5 = .ok (.ifCond .eq 5, 3) := by decide +kernel
theorem d_TC_held_8 : decode prog_1_method_5_code 8 = .ok (.iconst (-1), 1) := by decide +kernel
theorem d_TC_held_9 : decode prog_1_method_5_code 9 = .ok (.ireturn, 1) := by decide +kernel
theorem d_TC_held_10 : decode prog_1_method_5_code 10 = .ok (.iload_n 2, 1) := by decide +kernel
theorem d_TC_held_11 : decode prog_1_method_5_code 11 = .ok (.ifCond .lt 10, 3) := by decide +kernel
theorem d_TC_held_14 : decode prog_1_method_5_code 14 = .ok (.iload_n 2, 1) := by decide +kernel
theorem d_TC_held_15 : decode prog_1_method_5_code 15 = .ok (.sipush 9999, 3) := by decide +kernel
theorem d_TC_held_18 : decode prog_1_method_5_code 18 = .ok (.if_icmp .le 6, 3) := by decide +kernel
theorem d_TC_held_21 : decode prog_1_method_5_code 21 = .ok (.bipush (-2), 2) := by decide +kernel
theorem d_TC_held_23 : decode prog_1_method_5_code 23 = .ok (.ireturn, 1) := by decide +kernel
theorem d_TC_held_24 : decode prog_1_method_5_code 24 = .ok (.aload_n 0, 1) := by decide +kernel
theorem d_TC_held_25 : decode prog_1_method_5_code 25 = .ok (.getfield 24, 3) := by decide +kernel
theorem d_TC_held_28 : decode prog_1_method_5_code 28 = .ok (.getfield 112, 3) := by decide +kernel
theorem d_TC_held_31 : decode prog_1_method_5_code 31 = .ok (.iload_n 1, 1) := by decide +kernel
theorem d_TC_held_32 : decode prog_1_method_5_code 32 = .ok (.iaload, 1) := by decide +kernel
theorem d_TC_held_33 : decode prog_1_method_5_code 33 = .ok (.istore_n 3, 1) := by decide +kernel
theorem d_TC_held_34 : decode prog_1_method_5_code 34 = .ok (.aload_n 0, 1) := by decide +kernel
theorem d_TC_held_35 : decode prog_1_method_5_code 35 = .ok (.getfield 24, 3) := by decide +kernel
theorem d_TC_held_38 : decode prog_1_method_5_code 38 = .ok (.getfield 112, 3) := by decide +kernel
theorem d_TC_held_41 : decode prog_1_method_5_code 41 = .ok (.iload_n 1, 1) := by decide +kernel
theorem d_TC_held_42 : decode prog_1_method_5_code 42 = .ok (.iload_n 2, 1) := by decide +kernel
theorem d_TC_held_43 : decode prog_1_method_5_code 43 = .ok (.iastore, 1) := by decide +kernel
theorem d_TC_held_44 : decode prog_1_method_5_code 44 = .ok (.iload_n 3, 1) := by decide +kernel
theorem d_TC_held_45 : decode prog_1_method_5_code 45 = .ok (.ireturn, 1) := by decide +kernel
theorem d_TC_row_0 : decode prog_1_method_6_code 0 = .ok (.aload_n 0, 1) := by decide +kernel
theorem d_TC_row_1 : decode prog_1_method_6_code 1 = .ok (.iload_n 1, 1) := by decide +kernel
theorem d_TC_row_2 : decode prog_1_method_6_code 2 = .ok (.invokevirtual 97, 3) := by decide +kernel
theorem d_TC_row_5 : decode prog_1_method_6_code 5 = .ok (.ifCond .ne 12, 3) := by decide +kernel
theorem d_TC_row_8 : decode prog_1_method_6_code 8 = .ok (.iload_n 2, 1) := by decide +kernel
theorem d_TC_row_9 : decode prog_1_method_6_code 9 = .ok (.ifCond .lt 8, 3) := by decide +kernel
theorem d_TC_row_12 : decode prog_1_method_6_code 12 = .ok (.iload_n 2, 1) := by decide +kernel
theorem d_TC_row_13 : decode prog_1_method_6_code 13 = .ok (.iconst 4, 1) := by decide +kernel
theorem d_TC_row_14 : decode prog_1_method_6_code 14 = .ok (.if_icmp .lt 5, 3) := by decide +kernel
theorem d_TC_row_17 : decode prog_1_method_6_code 17 = .ok (.iconst (-1), 1) := by decide +kernel
theorem d_TC_row_18 : decode prog_1_method_6_code 18 = .ok (.ireturn, 1) := by decide +kernel
theorem d_TC_row_19 : decode prog_1_method_6_code 19 = .ok (.iload_n 3, 1) := by decide +kernel
theorem d_TC_row_20 : decode prog_1_method_6_code 20 = .ok (.ifCond .lt 9, 3) := by decide +kernel
theorem d_TC_row_23 : decode prog_1_method_6_code 23 = .ok (.iload_n 3, 1) := by decide +kernel
theorem d_TC_row_24 : decode prog_1_method_6_code 24 = .ok (.bipush 9, 2) := by decide +kernel
theorem d_TC_row_26 : decode prog_1_method_6_code 26 = .ok (.if_icmp .le 6, 3) := by decide +kernel
theorem d_TC_row_29 : decode prog_1_method_6_code 29 = .ok (.bipush (-2), 2) := by decide +kernel
theorem d_TC_row_31 : decode prog_1_method_6_code 31 = .ok (.ireturn, 1) := by decide +kernel
theorem d_TC_row_32 : decode prog_1_method_6_code 32 = .ok (.aload_n 0, 1) := by decide +kernel
theorem d_TC_row_33 : decode prog_1_method_6_code 33 = .ok (.getfield 24, 3) := by decide +kernel
theorem d_TC_row_36 : decode prog_1_method_6_code 36 = .ok (.getfield 101, 3) := by decide +kernel
theorem d_TC_row_39 : decode prog_1_method_6_code 39 = .ok (.iload_n 1, 1) := by decide +kernel
theorem d_TC_row_40 : decode prog_1_method_6_code 40 = .ok (.aaload, 1) := by decide +kernel
theorem d_TC_row_41 : decode prog_1_method_6_code 41 = .ok (.instanceof 94, 3) := by decide +kernel
theorem d_TC_row_44 : decode prog_1_method_6_code 44 = .ok (.ifCond .ne 6, 3) := by decide +kernel
theorem d_TC_row_47 : decode prog_1_method_6_code 47 = .ok (.bipush (-3), 2) := by decide +kernel
theorem d_TC_row_49 : decode prog_1_method_6_code 49 = .ok (.ireturn, 1) := by decide +kernel
theorem d_TC_row_50 : decode prog_1_method_6_code 50 = .ok (.aload_n 0, 1) := by decide +kernel
theorem d_TC_row_51 : decode prog_1_method_6_code 51 = .ok (.getfield 24, 3) := by decide +kernel
theorem d_TC_row_54 : decode prog_1_method_6_code 54 = .ok (.getfield 128, 3) := by decide +kernel
theorem d_TC_row_57 : decode prog_1_method_6_code 57 = .ok (.iload_n 1, 1) := by decide +kernel
theorem d_TC_row_58 : decode prog_1_method_6_code 58 = .ok (.iconst 4, 1) := by decide +kernel
theorem d_TC_row_59 : decode prog_1_method_6_code 59 = .ok (.imul, 1) := by decide +kernel
theorem d_TC_row_60 : decode prog_1_method_6_code 60 = .ok (.iload_n 2, 1) := by decide +kernel
theorem d_TC_row_61 : decode prog_1_method_6_code 61 = .ok (.iadd, 1) := by decide +kernel
theorem d_TC_row_62 : decode prog_1_method_6_code 62 = .ok (.iaload, 1) := by decide +kernel
theorem d_TC_row_63 : decode prog_1_method_6_code 63 = .ok (.istore 4, 2) := by decide +kernel
theorem d_TC_row_65 : decode prog_1_method_6_code 65 = .ok (.aload_n 0, 1) := by decide +kernel
theorem d_TC_row_66 : decode prog_1_method_6_code 66 = .ok (.getfield 24, 3) := by decide +kernel
theorem d_TC_row_69 : decode prog_1_method_6_code 69 = .ok (.getfield 128, 3) := by decide +kernel
theorem d_TC_row_72 : decode prog_1_method_6_code 72 = .ok (.iload_n 1, 1) := by decide +kernel
theorem d_TC_row_73 : decode prog_1_method_6_code 73 = .ok (.iconst 4, 1) := by decide +kernel
theorem d_TC_row_74 : decode prog_1_method_6_code 74 = .ok (.imul, 1) := by decide +kernel
theorem d_TC_row_75 : decode prog_1_method_6_code 75 = .ok (.iload_n 2, 1) := by decide +kernel
theorem d_TC_row_76 : decode prog_1_method_6_code 76 = .ok (.iadd, 1) := by decide +kernel
theorem d_TC_row_77 : decode prog_1_method_6_code 77 = .ok (.iload_n 3, 1) := by decide +kernel
theorem d_TC_row_78 : decode prog_1_method_6_code 78 = .ok (.iastore, 1) := by decide +kernel
theorem d_TC_row_79 : decode prog_1_method_6_code 79 = .ok (.iload 4, 2) := by decide +kernel
theorem d_TC_row_81 : decode prog_1_method_6_code 81 = .ok (.ireturn, 1) := by decide +kernel
theorem d_TC_place_0 : decode prog_1_method_7_code 0 = .ok (.aload_n 0, 1) := by decide +kernel
theorem d_TC_place_1 : decode prog_1_method_7_code 1 = .ok (.iload_n 1, 1) := by decide +kernel
theorem d_TC_place_2 : decode prog_1_method_7_code 2 = .ok (.invokevirtual 97, 3) := by decide +kernel
theorem d_TC_place_5 : decode prog_1_method_7_code 5 = .ok (.ifCond .ne 18, 3) := by decide +kernel
theorem d_TC_place_8 : decode prog_1_method_7_code 8 = .ok (.iload_n 2, 1) := by decide +kernel
theorem d_TC_place_9 : decode prog_1_method_7_code 9 = .ok (.ifCond .lt 14, 3) := by decide +kernel
theorem d_TC_place_12 : decode prog_1_method_7_code 12 = .ok (.iload_n 2, 1) := by decide +kernel
theorem d_TC_place_13 : decode prog_1_method_7_code 13 = .ok (.aload_n 0, 1) := by decide +kernel
theorem d_TC_place_14 : decode prog_1_method_7_code 14 = .ok (.getfield 24, 3) := by decide +kernel
theorem d_TC_place_17 : decode prog_1_method_7_code 17 = .ok (.getfield 131, 3) := by decide +kernel
theorem d_TC_place_20 : decode prog_1_method_7_code 20 = .ok (.if_icmp .lt 5, 3) := by decide +kernel
theorem d_TC_place_23 : decode prog_1_method_7_code 23 = .ok (.iconst (-1), 1) := by decide +kernel
theorem d_TC_place_24 : decode prog_1_method_7_code 24 = .ok (.ireturn, 1) := by decide +kernel
theorem d_TC_place_25 : decode prog_1_method_7_code 25 = .ok (.aload_n 0, 1) := by decide +kernel
theorem d_TC_place_26 : decode prog_1_method_7_code 26 = .ok (.getfield 24, 3) := by decide +kernel
theorem d_TC_place_29 : decode prog_1_method_7_code 29 = .ok (.iload_n 1, 1) := by decide +kernel
theorem d_TC_place_30 : decode prog_1_method_7_code 30 = .ok (.invokevirtual 118, 3) := by decide +kernel
theorem d_TC_place_33 : decode prog_1_method_7_code 33 = .ok (.istore_n 3, 1) := by decide +kernel
theorem d_TC_place_34 : decode prog_1_method_7_code 34 = .ok (.aload_n 0, 1) := by decide +kernel
theorem d_TC_place_35 : decode prog_1_method_7_code 35 = .ok (.getfield 24, 3) := by decide +kernel
theorem d_TC_place_38 : decode prog_1_method_7_code 38 = .ok (.iload_n 3, 1) := by decide +kernel
theorem d_TC_place_39 : decode prog_1_method_7_code 39 = .ok (.invokevirtual 134, 3) := by decide +kernel
theorem d_TC_place_42 : decode prog_1_method_7_code 42 = .ok (.aload_n 0, 1) := by decide +kernel
theorem d_TC_place_43 : decode prog_1_method_7_code 43 = .ok (.getfield 24, 3) := by decide +kernel
theorem d_TC_place_46 : decode prog_1_method_7_code 46 = .ok (.iload_n 2, 1) := by decide +kernel
theorem d_TC_place_47 : decode prog_1_method_7_code 47 = .ok (.iload_n 1, 1) := by decide +kernel
theorem d_TC_place_48 : decode prog_1_method_7_code 48 = .ok (.invokevirtual 137, 3) := by decide +kernel
theorem d_TC_place_51 : decode prog_1_method_7_code 51 = .ok (.iload_n 3, 1) := by decide +kernel
theorem d_TC_place_52 : decode prog_1_method_7_code 52 = .ok (.ireturn, 1) := by decide +kernel
theorem d_Si_removeAt_0 : decode prog_6_method_6_code 0 = .ok (.iload_n 1, 1) := by decide +kernel
theorem d_Si_removeAt_1 : decode prog_6_method_6_code 1 = .ok (.ifCond .lt 11, 3) := by decide +kernel
theorem d_Si_removeAt_4 : decode prog_6_method_6_code 4 = .ok (.iload_n 1, 1) := by decide +kernel
theorem d_Si_removeAt_5 : decode prog_6_method_6_code 5 = .ok (.aload_n 0, 1) := by decide +kernel
theorem d_Si_removeAt_6 : decode prog_6_method_6_code 6 = .ok (.getfield 50, 3) := by decide +kernel
theorem d_Si_removeAt_9 : decode prog_6_method_6_code 9 = .ok (.if_icmp .lt 4, 3) := by decide +kernel
theorem d_Si_removeAt_12 : decode prog_6_method_6_code 12 = .ok (.return_, 1) := by decide +kernel
theorem d_Si_removeAt_13 : decode prog_6_method_6_code 13 = .ok (.aload_n 0, 1) := by decide +kernel
theorem d_Si_removeAt_14 : decode prog_6_method_6_code 14 = .ok (.getfield 27, 3) := by decide +kernel
theorem d_Si_removeAt_17 : decode prog_6_method_6_code 17 = .ok (.iload_n 1, 1) := by decide +kernel
theorem d_Si_removeAt_18 : decode prog_6_method_6_code 18 = .ok (.iconst 1, 1) := by decide +kernel
theorem d_Si_removeAt_19 : decode prog_6_method_6_code 19 = .ok (.iadd, 1) := by decide +kernel
theorem d_Si_removeAt_20 : decode prog_6_method_6_code 20 = .ok (.aload_n 0, 1) := by decide +kernel
theorem d_Si_removeAt_21 : decode prog_6_method_6_code 21 = .ok (.getfield 27, 3) := by decide +kernel
theorem d_Si_removeAt_24 : decode prog_6_method_6_code 24 = .ok (.iload_n 1, 1) := by decide +kernel
theorem d_Si_removeAt_25 : decode prog_6_method_6_code 25 = .ok (.aload_n 0, 1) := by decide +kernel
theorem d_Si_removeAt_26 : decode prog_6_method_6_code 26 = .ok (.getfield 50, 3) := by decide +kernel
theorem d_Si_removeAt_29 : decode prog_6_method_6_code 29 = .ok (.iload_n 1, 1) := by decide +kernel
theorem d_Si_removeAt_30 : decode prog_6_method_6_code 30 = .ok (.isub, 1) := by decide +kernel
theorem d_Si_removeAt_31 : decode prog_6_method_6_code 31 = .ok (.iconst 1, 1) := by decide +kernel
theorem d_Si_removeAt_32 : decode prog_6_method_6_code 32 = .ok (.isub, 1) := by decide +kernel
theorem d_Si_removeAt_33 : decode prog_6_method_6_code 33 = .ok (.invokestatic 40, 3) := by decide +kernel
theorem d_Si_removeAt_36 : decode prog_6_method_6_code 36 = .ok (.aload_n 0, 1) := by decide +kernel
theorem d_Si_removeAt_37 : decode prog_6_method_6_code 37 = .ok (.dup, 1) := by decide +kernel
theorem d_Si_removeAt_38 : decode prog_6_method_6_code 38 = .ok (.getfield 50, 3) := by decide +kernel
theorem d_Si_removeAt_41 : decode prog_6_method_6_code 41 = .ok (.iconst 1, 1) := by decide +kernel
theorem d_Si_removeAt_42 : decode prog_6_method_6_code 42 = .ok (.isub, 1) := by decide +kernel
theorem d_Si_removeAt_43 : decode prog_6_method_6_code 43 = .ok (.putfield 50, 3) := by decide +kernel
theorem d_Si_removeAt_46 : decode prog_6_method_6_code 46 = .ok (.return_, 1) := by decide +kernel
theorem d_TC_feed_0 : decode prog_1_method_8_code 0 = .ok (.iload_n 1, 1) := by decide +kernel
theorem d_TC_feed_1 : decode prog_1_method_8_code 1 = .ok (.ifCond .lt 9, 3) := by decide +kernel
theorem d_TC_feed_4 : decode prog_1_method_8_code 4 = .ok (.iload_n 1, 1) := by decide +kernel
theorem d_TC_feed_5 : decode prog_1_method_8_code 5 = .ok (.bipush 127, 2) := by decide +kernel
theorem d_TC_feed_7 : decode prog_1_method_8_code 7 = .ok (.if_icmp .le 6, 3) := by decide +kernel
theorem d_TC_feed_10 : decode prog_1_method_8_code 10 = .ok (.bipush (-2), 2) := by decide +kernel
theorem d_TC_feed_12 : decode prog_1_method_8_code 12 = .ok (.ireturn, 1) := by decide +kernel
theorem d_TC_feed_13 : decode prog_1_method_8_code 13 = .ok (.aload_n 0, 1) := by decide +kernel
theorem d_TC_feed_14 : decode prog_1_method_8_code 14 = .ok (.getfield 140, 3) := by decide +kernel
theorem d_TC_feed_17 : decode prog_1_method_8_code 17 = .ok (.bipush 100, 2) := by decide +kernel
theorem d_TC_feed_19 : decode prog_1_method_8_code 19 = .ok (.if_icmp .lt 6, 3) := by decide +kernel
theorem d_TC_feed_22 : decode prog_1_method_8_code 22 = .ok (.bipush (-4), 2) := by decide +kernel
theorem d_TC_feed_24 : decode prog_1_method_8_code 24 = .ok (.ireturn, 1) := by decide +kernel
theorem d_TC_feed_25 : decode prog_1_method_8_code 25 = .ok (.aload_n 0, 1) := by decide +kernel
theorem d_TC_feed_26 : decode prog_1_method_8_code 26 = .ok (.getfield 46, 3) := by decide +kernel
theorem d_TC_feed_29 : decode prog_1_method_8_code 29 = .ok (.aload_n 0, 1) := by decide +kernel
theorem d_TC_feed_30 : decode prog_1_method_8_code 30 = .ok (.getfield 140, 3) := by decide +kernel
theorem d_TC_feed_33 : decode prog_1_method_8_code 33 = .ok (.iload_n 1, 1) := by decide +kernel
theorem d_TC_feed_34 : decode prog_1_method_8_code 34 = .ok (.i2c, 1) := by decide +kernel
theorem d_TC_feed_35 : decode prog_1_method_8_code 35 = .ok (.castore, 1) := by decide +kernel
theorem d_TC_feed_36 : decode prog_1_method_8_code 36 = .ok (.aload_n 0, 1) := by decide +kernel
theorem d_TC_feed_37 : decode prog_1_method_8_code 37 = .ok (.dup, 1) := by decide +kernel
theorem d_TC_feed_38 : decode prog_1_method_8_code 38 = .ok (.getfield 140, 3) := by decide +kernel
theorem d_TC_feed_41 : decode prog_1_method_8_code 41 = .ok (.iconst 1, 1) := by decide +kernel
theorem d_TC_feed_42 : decode prog_1_method_8_code 42 = .ok (.iadd, 1) := by decide +kernel
theorem d_TC_feed_43 : decode prog_1_method_8_code 43 = .ok (.putfield 140, 3) := by decide +kernel
theorem d_TC_feed_46 : decode prog_1_method_8_code 46 = .ok (.aload_n 0, 1) := by decide +kernel
theorem d_TC_feed_47 : decode prog_1_method_8_code 47 = .ok (.getfield 140, 3) := by decide +kernel
theorem d_TC_feed_50 : decode prog_1_method_8_code 50 = .ok (.ireturn, 1) := by decide +kernel
theorem d_TC_scaffold_0 : decode prog_1_method_9_code 0 = .ok (.aload_n 0, 1) := by decide +kernel
theorem d_TC_scaffold_1 : decode prog_1_method_9_code 1 = .ok (.getfield 143, 3) := by decide +kernel
theorem d_TC_scaffold_4 : decode prog_1_method_9_code 4 = .ok (.bipush 6, 2) := by decide +kernel
theorem d_TC_scaffold_6 : decode prog_1_method_9_code 6 = .ok (.if_icmp .lt 6, 3) := by decide +kernel
theorem d_TC_scaffold_9 : decode prog_1_method_9_code 9 = .ok (.bipush (-4), 2) := by decide +kernel
theorem d_TC_scaffold_11 : decode prog_1_method_9_code 11 = .ok (.ireturn, 1) := by decide +kernel
theorem d_TC_scaffold_12 : decode prog_1_method_9_code 12 = .ok (.aload_n 0, 1) := by decide +kernel
theorem d_TC_scaffold_13 : decode prog_1_method_9_code 13 = .ok (.getfield 42, 3) := by decide +kernel
theorem d_TC_scaffold_16 : decode prog_1_method_9_code 16 = .ok (.aload_n 0, 1) := by decide +kernel
theorem d_TC_scaffold_17 : decode prog_1_method_9_code 17 = .ok (.getfield 143, 3) := by decide +kernel
theorem d_TC_scaffold_20 : decode prog_1_method_9_code 20 = .ok (.aaload, 1) := by decide +kernel
theorem d_TC_scaffold_21 : decode prog_1_method_9_code 21 = .ok (.ifnonnull 21, 3) := by decide +kernel
theorem d_TC_scaffold_24 : decode prog_1_method_9_code 24 = .ok (.aload_n 0, 1) := by decide +kernel
theorem d_TC_scaffold_25 : decode prog_1_method_9_code 25 = .ok (.getfield 42, 3) := by decide +kernel
theorem d_TC_scaffold_28 : decode prog_1_method_9_code 28 = .ok (.aload_n 0, 1) := by decide +kernel
theorem d_TC_scaffold_29 : decode prog_1_method_9_code 29 = .ok (.getfield 143, 3) := by decide +kernel
theorem d_TC_scaffold_32 : decode prog_1_method_9_code 32 = .ok (.new 9, 3) := by decide +kernel
theorem d_TC_scaffold_35 : decode prog_1_method_9_code 35 = .ok (.dup, 1) := by decide +kernel
theorem d_TC_scaffold_36 : decode prog_1_method_9_code 36 = .ok (.bipush 64, 2) := by decide +kernel
theorem d_TC_scaffold_38 : decode prog_1_method_9_code 38 = .ok (.invokespecial 11, 3) := by decide +kernel
theorem d_TC_scaffold_41 : decode prog_1_method_9_code 41 = .ok (.aastore, 1) := by decide +kernel
theorem d_TC_scaffold_42 : decode prog_1_method_9_code 42 = .ok (.aload_n 0, 1) := by decide +kernel
theorem d_TC_scaffold_43 : decode prog_1_method_9_code 43 = .ok (.getfield 42, 3) := by decide +kernel
theorem d_TC_scaffold_46 : decode prog_1_method_9_code 46 = .ok (.aload_n 0, 1) := by decide +kernel
theorem d_TC_scaffold_47 : decode prog_1_method_9_code 47 = .ok (.getfield 143, 3) := by decide +kernel
theorem d_TC_scaffold_50 : decode prog_1_method_9_code 50 = .ok (.aaload, 1) := by decide +kernel
theorem d_TC_scaffold_51 : decode prog_1_method_9_code 51 = .ok (.astore_n 1, 1) := by decide +kernel
theorem d_TC_scaffold_52 : decode prog_1_method_9_code 52 = .ok (.aload_n 1, 1) := by decide +kernel
theorem d_TC_scaffold_53 : decode prog_1_method_9_code 53 = .ok (.aload_n 0, 1) := by decide +kernel
theorem d_TC_scaffold_54 : decode prog_1_method_9_code 54 = .ok (.getfield 46, 3) := by decide +kernel
theorem d_TC_scaffold_57 : decode prog_1_method_9_code 57 = .ok (.aload_n 0, 1) := by decide +kernel
theorem d_TC_scaffold_58 : decode prog_1_method_9_code 58 = .ok (.getfield 140, 3) := by decide +kernel
theorem d_TC_scaffold_61 : decode prog_1_method_9_code 61 = .ok (.invokevirtual 146, 3) := by decide +kernel
theorem d_TC_scaffold_64 : decode prog_1_method_9_code 64 = .ok (.istore_n 2, 1) := by decide +kernel
theorem d_TC_scaffold_65 : decode prog_1_method_9_code 65 = .ok (.aload_n 0, 1) := by decide +kernel
theorem d_TC_scaffold_66 : decode prog_1_method_9_code 66 = .ok (.iconst 0, 1) := by decide +kernel
theorem d_TC_scaffold_67 : decode prog_1_method_9_code 67 = .ok (.putfield 140, 3) := by decide +kernel
theorem d_TC_scaffold_70 : decode prog_1_method_9_code 70 = .ok (.iload_n 2, 1) := by decide +kernel
theorem d_TC_scaffold_71 : decode prog_1_method_9_code 71 = .ok (.ifCond .lt 8, 3) := by decide +kernel
theorem d_TC_scaffold_74 : decode prog_1_method_9_code 74 = .ok (.bipush (-10), 2) := by decide +kernel
theorem d_TC_scaffold_76 : decode prog_1_method_9_code 76 = .ok (.iload_n 2, 1) := by decide +kernel
theorem d_TC_scaffold_77 : decode prog_1_method_9_code 77 = .ok (.isub, 1) := by decide +kernel
theorem d_TC_scaffold_78 : decode prog_1_method_9_code 78 = .ok (.ireturn, 1) := by decide +kernel
theorem d_TC_scaffold_79 : decode prog_1_method_9_code 79 = .ok (.aload_n 0, 1) := by decide +kernel
theorem d_TC_scaffold_80 : decode prog_1_method_9_code 80 = .ok (.getfield 24, 3) := by decide +kernel
theorem d_TC_scaffold_83 : decode prog_1_method_9_code 83 = .ok (.aload_n 1, 1) := by decide +kernel
theorem d_TC_scaffold_84 : decode prog_1_method_9_code 84 = .ok (.putfield 150, 3) := by decide +kernel
theorem d_TC_scaffold_87 : decode prog_1_method_9_code 87 = .ok (.aload_n 0, 1) := by decide +kernel
theorem d_TC_scaffold_88 : decode prog_1_method_9_code 88 = .ok (.dup, 1) := by decide +kernel
theorem d_TC_scaffold_89 : decode prog_1_method_9_code 89 = .ok (.getfield 143, 3) := by decide +kernel
theorem d_TC_scaffold_92 : decode prog_1_method_9_code 92 = .ok (.iconst 1, 1) := by decide +kernel
theorem d_TC_scaffold_93 : decode prog_1_method_9_code 93 = .ok (.iadd, 1) := by decide +kernel
theorem d_TC_scaffold_94 : decode prog_1_method_9_code 94 = .ok (.putfield 143, 3) := by decide +kernel
theorem d_TC_scaffold_97 : decode prog_1_method_9_code 97 = .ok (.aload_n 0, 1) := by decide +kernel
theorem d_TC_scaffold_98 : decode prog_1_method_9_code 98 = .ok (.getfield 143, 3) := by decide +kernel
theorem d_TC_scaffold_101 : decode prog_1_method_9_code 101 = .ok (.iconst 1, 1) := by decide +kernel
theorem d_TC_scaffold_102 : decode prog_1_method_9_code 102 = .ok (.isub, 1) := by decide +kernel
theorem d_TC_scaffold_103 : decode prog_1_method_9_code 103 = .ok (.ireturn, 1) := by decide +kernel
theorem d_Sc_compile_0 : decode prog_5_method_2_code 0 = .ok (.aload_n 0, 1) := by decide +kernel
theorem d_Sc_compile_1 : decode prog_5_method_2_code 1 = .ok (.aload_n 1, 1) := by decide +kernel
theorem d_Sc_compile_2 : decode prog_5_method_2_code 2 = .ok (.putfield 38, 3) := by decide +kernel
theorem d_Sc_compile_5 : decode prog_5_method_2_code 5 = .ok (.aload_n 0, 1) := by decide +kernel
theorem d_Sc_compile_6 : decode prog_5_method_2_code 6 = .ok (.iload_n 2, 1) := by decide +kernel
theorem d_Sc_compile_7 : decode prog_5_method_2_code 7 = .ok (.aload_n 1, 1) := by decide +kernel
theorem d_Sc_compile_8 : decode prog_5_method_2_code 8 = .ok (.arraylength, 1) := by decide +kernel
theorem d_Sc_compile_9 : decode prog_5_method_2_code 9 = .ok (.invokestatic 42, 3) := by decide +kernel
theorem d_Sc_compile_12 : decode prog_5_method_2_code 12 = .ok (.putfield 45, 3) := by decide +kernel
theorem d_Sc_compile_15 : decode prog_5_method_2_code 15 = .ok (.aload_n 0, 1) := by decide +kernel
theorem d_Sc_compile_16 : decode prog_5_method_2_code 16 = .ok (.iconst 0, 1) := by decide +kernel
theorem d_Sc_compile_17 : decode prog_5_method_2_code 17 = .ok (.putfield 48, 3) := by decide +kernel
theorem d_Sc_compile_20 : decode prog_5_method_2_code 20 = .ok (.aload_n 0, 1) := by decide +kernel
theorem d_Sc_compile_21 : decode prog_5_method_2_code 21 = .ok (.iconst 0, 1) := by decide +kernel
theorem d_Sc_compile_22 : decode prog_5_method_2_code 22 = .ok (.putfield 51, 3) := by decide +kernel
theorem d_Sc_compile_25 : decode prog_5_method_2_code 25 = .ok (.aload_n 0, 1) := by decide +kernel
theorem d_Sc_compile_26 : decode prog_5_method_2_code 26 = .ok (.iconst 5, 1) := by decide +kernel
theorem d_Sc_compile_27 : decode prog_5_method_2_code 27 = .ok (.putfield 18, 3) := by decide +kernel
theorem d_Sc_compile_30 : decode prog_5_method_2_code 30 = .ok (.aload_n 0, 1) := by decide +kernel
theorem d_Sc_compile_31 : decode prog_5_method_2_code 31 = .ok (.iconst 3, 1) := by decide +kernel
theorem d_Sc_compile_32 : decode prog_5_method_2_code 32 = .ok (.putfield 22, 3) := by decide +kernel
theorem d_Sc_compile_35 : decode prog_5_method_2_code 35 = .ok (.aload_n 0, 1) := by decide +kernel
theorem d_Sc_compile_36 : decode prog_5_method_2_code 36 = .ok (.bipush 40, 2) := by decide +kernel
theorem d_Sc_compile_38 : decode prog_5_method_2_code 38 = .ok (.putfield 25, 3) := by decide +kernel
theorem d_Sc_compile_41 : decode prog_5_method_2_code 41 = .ok (.iconst 1, 1) := by decide +kernel
theorem d_Sc_compile_42 : decode prog_5_method_2_code 42 = .ok (.istore_n 3, 1) := by decide +kernel
theorem d_Sc_compile_43 : decode prog_5_method_2_code 43 = .ok (.iload_n 3, 1) := by decide +kernel
theorem d_Sc_compile_44 : decode prog_5_method_2_code 44 = .ok (.bipush 10, 2) := by decide +kernel
theorem d_Sc_compile_46 : decode prog_5_method_2_code 46 = .ok (.if_icmp .gt 54, 3) := by decide +kernel
theorem d_Sc_compile_49 : decode prog_5_method_2_code 49 = .ok (.aload_n 0, 1) := by decide +kernel
theorem d_Sc_compile_50 : decode prog_5_method_2_code 50 = .ok (.invokevirtual 54, 3) := by decide +kernel
theorem d_Sc_compile_53 : decode prog_5_method_2_code 53 = .ok (.ifCond .ne 8, 3) := by decide +kernel
theorem d_Sc_compile_56 : decode prog_5_method_2_code 56 = .ok (.aload_n 0, 1) := by decide +kernel
theorem d_Sc_compile_57 : decode prog_5_method_2_code 57 = .ok (.getfield 48, 3) := by decide +kernel
theorem d_Sc_compile_60 : decode prog_5_method_2_code 60 = .ok (.ireturn, 1) := by decide +kernel
theorem d_Sc_compile_61 : decode prog_5_method_2_code 61 = .ok (.aload_n 0, 1) := by decide +kernel
theorem d_Sc_compile_62 : decode prog_5_method_2_code 62 = .ok (.getfield 48, 3) := by decide +kernel
theorem d_Sc_compile_65 : decode prog_5_method_2_code 65 = .ok (.aload_n 0, 1) := by decide +kernel
theorem d_Sc_compile_66 : decode prog_5_method_2_code 66 = .ok (.getfield 45, 3) := by decide +kernel
theorem d_Sc_compile_69 : decode prog_5_method_2_code 69 = .ok (.if_icmp .lt 5, 3) := by decide +kernel
theorem d_Sc_compile_72 : decode prog_5_method_2_code 72 = .ok (.iconst (-1), 1) := by decide +kernel
theorem d_Sc_compile_73 : decode prog_5_method_2_code 73 = .ok (.ireturn, 1) := by decide +kernel
theorem d_Sc_compile_74 : decode prog_5_method_2_code 74 = .ok (.iload_n 3, 1) := by decide +kernel
theorem d_Sc_compile_75 : decode prog_5_method_2_code 75 = .ok (.bipush 10, 2) := by decide +kernel
theorem d_Sc_compile_77 : decode prog_5_method_2_code 77 = .ok (.if_icmp .eq 12, 3) := by decide +kernel
theorem d_Sc_compile_80 : decode prog_5_method_2_code 80 = .ok (.aload_n 0, 1) := by decide +kernel
theorem d_Sc_compile_81 : decode prog_5_method_2_code 81 = .ok (.bipush 59, 2) := by decide +kernel
theorem d_Sc_compile_83 : decode prog_5_method_2_code 83 = .ok (.invokevirtual 58, 3) := by decide +kernel
theorem d_Sc_compile_86 : decode prog_5_method_2_code 86 = .ok (.ifCond .ne 8, 3) := by decide +kernel
theorem d_Sc_compile_89 : decode prog_5_method_2_code 89 = .ok (.aload_n 0, 1) := by decide +kernel
theorem d_Sc_compile_90 : decode prog_5_method_2_code 90 = .ok (.getfield 48, 3) := by decide +kernel
theorem d_Sc_compile_93 : decode prog_5_method_2_code 93 = .ok (.ireturn, 1) := by decide +kernel
theorem d_Sc_compile_94 : decode prog_5_method_2_code 94 = .ok (.iinc 3 1, 3) := by decide +kernel
theorem d_Sc_compile_97 : decode prog_5_method_2_code 97 = .ok (.goto (-54), 3) := by decide +kernel
theorem d_Sc_compile_100 : decode prog_5_method_2_code 100 = .ok (.aload_n 0, 1) := by decide +kernel
theorem d_Sc_compile_101 : decode prog_5_method_2_code 101 = .ok (.getfield 48, 3) := by decide +kernel
theorem d_Sc_compile_104 : decode prog_5_method_2_code 104 = .ok (.ireturn, 1) := by decide +kernel
theorem d_Sc_readClause_0 : decode prog_5_method_3_code 0 = .ok (.aload_n 0, 1) := by decide +kernel
theorem d_Sc_readClause_1 : decode prog_5_method_3_code 1 = .ok (.invokevirtual 62, 3) := by decide +kernel
theorem d_Sc_readClause_4 : decode prog_5_method_3_code 4 = .ok (.istore_n 1, 1) := by decide +kernel
theorem d_Sc_readClause_5 : decode prog_5_method_3_code 5 = .ok (.iload_n 1, 1) := by decide +kernel
theorem d_Sc_readClause_6 : decode prog_5_method_3_code 6 = .ok (.ifCond .lt 12, 3) := by decide +kernel
theorem d_Sc_readClause_9 : decode prog_5_method_3_code 9 = .ok (.aload_n 0, 1) := by decide +kernel
theorem d_Sc_readClause_10 : decode prog_5_method_3_code 10 = .ok (.bipush 32, 2) := by decide +kernel
theorem d_Sc_readClause_12 : decode prog_5_method_3_code 12 = .ok (.invokevirtual 58, 3) := by decide +kernel
theorem d_Sc_readClause_15 : decode prog_5_method_3_code 15 = .ok (.ifCond .ne 5, 3) := by decide +kernel
theorem d_Sc_readClause_18 : decode prog_5_method_3_code 18 = .ok (.iconst 0, 1) := by decide +kernel
theorem d_Sc_readClause_19 : decode prog_5_method_3_code 19 = .ok (.ireturn, 1) := by decide +kernel
theorem d_Sc_readClause_20 : decode prog_5_method_3_code 20 = .ok (.aload_n 0, 1) := by decide +kernel
theorem d_Sc_readClause_21 : decode prog_5_method_3_code 21 = .ok (.invokevirtual 66, 3) := by decide +kernel
theorem d_Sc_readClause_24 : decode prog_5_method_3_code 24 = .ok (.istore_n 2, 1) := by decide +kernel
theorem d_Sc_readClause_25 : decode prog_5_method_3_code 25 = .ok (.iload_n 2, 1) := by decide +kernel
theorem d_Sc_readClause_26 : decode prog_5_method_3_code 26 = .ok (.ifCond .ge 5, 3) := by decide +kernel
theorem d_Sc_readClause_29 : decode prog_5_method_3_code 29 = .ok (.iconst 0, 1) := by decide +kernel
theorem d_Sc_readClause_30 : decode prog_5_method_3_code 30 = .ok (.ireturn, 1) := by decide +kernel
theorem d_Sc_readClause_31 : decode prog_5_method_3_code 31 = .ok (.iload_n 1, 1) := by decide +kernel
theorem d_Sc_readClause_32 : decode prog_5_method_3_code 32 = .ok (.tableswitch 115 0 3 #[32, 66, 101, 108], 32) := by decide +kernel
theorem d_Sc_readClause_64 : decode prog_5_method_3_code 64 = .ok (.aload_n 0, 1) := by decide +kernel
theorem d_Sc_readClause_65 : decode prog_5_method_3_code 65 = .ok (.bipush 32, 2) := by decide +kernel
theorem d_Sc_readClause_67 : decode prog_5_method_3_code 67 = .ok (.invokevirtual 58, 3) := by decide +kernel
theorem d_Sc_readClause_70 : decode prog_5_method_3_code 70 = .ok (.ifCond .eq 26, 3) := by decide +kernel
theorem d_Sc_readClause_73 : decode prog_5_method_3_code 73 = .ok (.aload_n 0, 1) := by decide +kernel
theorem d_Sc_readClause_74 : decode prog_5_method_3_code 74 = .ok (.iconst 0, 1) := by decide +kernel
theorem d_Sc_readClause_75 : decode prog_5_method_3_code 75 = .ok (.invokevirtual 69, 3) := by decide +kernel
theorem d_Sc_readClause_78 : decode prog_5_method_3_code 78 = .ok (.ifCond .eq 18, 3) := by decide +kernel
theorem d_Sc_readClause_81 : decode prog_5_method_3_code 81 = .ok (.aload_n 0, 1) := by decide +kernel
theorem d_Sc_readClause_82 : decode prog_5_method_3_code 82 = .ok (.bipush (-100), 2) := by decide +kernel
theorem d_Sc_readClause_84 : decode prog_5_method_3_code 84 = .ok (.iload_n 2, 1) := by decide +kernel
theorem d_Sc_readClause_85 : decode prog_5_method_3_code 85 = .ok (.isub, 1) := by decide +kernel
theorem d_Sc_readClause_86 : decode prog_5_method_3_code 86 = .ok (.invokevirtual 73, 3) := by decide +kernel
theorem d_Sc_readClause_89 : decode prog_5_method_3_code 89 = .ok (.ifCond .eq 7, 3) := by decide +kernel
theorem d_Sc_readClause_92 : decode prog_5_method_3_code 92 = .ok (.iconst 1, 1) := by decide +kernel
theorem d_Sc_readClause_93 : decode prog_5_method_3_code 93 = .ok (.goto 4, 3) := by decide +kernel
theorem d_Sc_readClause_96 : decode prog_5_method_3_code 96 = .ok (.iconst 0, 1) := by decide +kernel
theorem d_Sc_readClause_97 : decode prog_5_method_3_code 97 = .ok (.ireturn, 1) := by decide +kernel
theorem d_Sc_readClause_98 : decode prog_5_method_3_code 98 = .ok (.aload_n 0, 1) := by decide +kernel
theorem d_Sc_readClause_99 : decode prog_5_method_3_code 99 = .ok (.bipush 32, 2) := by decide +kernel
theorem d_Sc_readClause_101 : decode prog_5_method_3_code 101 = .ok (.invokevirtual 58, 3) := by decide +kernel
theorem d_Sc_readClause_104 : decode prog_5_method_3_code 104 = .ok (.ifCond .eq 27, 3) := by decide +kernel
theorem d_Sc_readClause_107 : decode prog_5_method_3_code 107 = .ok (.aload_n 0, 1) := by decide +kernel
theorem d_Sc_readClause_108 : decode prog_5_method_3_code 108 = .ok (.iconst 0, 1) := by decide +kernel
theorem d_Sc_readClause_109 : decode prog_5_method_3_code 109 = .ok (.invokevirtual 69, 3) := by decide +kernel
theorem d_Sc_readClause_112 : decode prog_5_method_3_code 112 = .ok (.ifCond .eq 19, 3) := by decide +kernel
theorem d_Sc_readClause_115 : decode prog_5_method_3_code 115 = .ok (.aload_n 0, 1) := by decide +kernel
theorem d_Sc_readClause_116 : decode prog_5_method_3_code 116 = .ok (.sipush (-300), 3) := by decide +kernel
theorem d_Sc_readClause_119 : decode prog_5_method_3_code 119 = .ok (.iload_n 2, 1) := by decide +kernel
theorem d_Sc_readClause_120 : decode prog_5_method_3_code 120 = .ok (.isub, 1) := by decide +kernel
theorem d_Sc_readClause_121 : decode prog_5_method_3_code 121 = .ok (.invokevirtual 73, 3) := by decide +kernel
theorem d_Sc_readClause_124 : decode prog_5_method_3_code 124 = .ok (.ifCond .eq 7, 3) := by decide +kernel
theorem d_Sc_readClause_127 : decode prog_5_method_3_code 127 = .ok (.iconst 1, 1) := by decide +kernel
theorem d_Sc_readClause_128 : decode prog_5_method_3_code 128 = .ok (.goto 4, 3) := by decide +kernel
theorem d_Sc_readClause_131 : decode prog_5_method_3_code 131 = .ok (.iconst 0, 1) := by decide +kernel
theorem d_Sc_readClause_132 : decode prog_5_method_3_code 132 = .ok (.ireturn, 1) := by decide +kernel
theorem d_Sc_readClause_133 : decode prog_5_method_3_code 133 = .ok (.aload_n 0, 1) := by decide +kernel
theorem d_Sc_readClause_134 : decode prog_5_method_3_code 134 = .ok (.iload_n 2, 1) := by decide +kernel
theorem d_Sc_readClause_135 : decode prog_5_method_3_code 135 = .ok (.putfield 18, 3) := by decide +kernel
theorem d_Sc_readClause_138 : decode prog_5_method_3_code 138 = .ok (.iconst 1, 1) := by decide +kernel
theorem d_Sc_readClause_139 : decode prog_5_method_3_code 139 = .ok (.ireturn, 1) := by decide +kernel
theorem d_Sc_readClause_140 : decode prog_5_method_3_code 140 = .ok (.aload_n 0, 1) := by decide +kernel
theorem d_Sc_readClause_141 : decode prog_5_method_3_code 141 = .ok (.iload_n 2, 1) := by decide +kernel
theorem d_Sc_readClause_142 : decode prog_5_method_3_code 142 = .ok (.putfield 22, 3) := by decide +kernel
theorem d_Sc_readClause_145 : decode prog_5_method_3_code 145 = .ok (.iconst 1, 1) := by decide +kernel
theorem d_Sc_readClause_146 : decode prog_5_method_3_code 146 = .ok (.ireturn, 1) := by decide +kernel
theorem d_Sc_readClause_147 : decode prog_5_method_3_code 147 = .ok (.aload_n 0, 1) := by decide +kernel
theorem d_Sc_readClause_148 : decode prog_5_method_3_code 148 = .ok (.iconst 1, 1) := by decide +kernel
theorem d_Sc_readClause_149 : decode prog_5_method_3_code 149 = .ok (.iload_n 2, 1) := by decide +kernel
theorem d_Sc_readClause_150 : decode prog_5_method_3_code 150 = .ok (.invokestatic 28, 3) := by decide +kernel
theorem d_Sc_readClause_153 : decode prog_5_method_3_code 153 = .ok (.putfield 25, 3) := by decide +kernel
theorem d_Sc_readClause_156 : decode prog_5_method_3_code 156 = .ok (.iconst 1, 1) := by decide +kernel
theorem d_Sc_readClause_157 : decode prog_5_method_3_code 157 = .ok (.ireturn, 1) := by decide +kernel
theorem d_Sc_readWord_0 : decode prog_5_method_5_code 0 = .ok (.iconst 0, 1) := by decide +kernel
theorem d_Sc_readWord_1 : decode prog_5_method_5_code 1 = .ok (.istore_n 1, 1) := by decide +kernel
theorem d_Sc_readWord_2 : decode prog_5_method_5_code 2 = .ok (.iconst 0, 1) := by decide +kernel
theorem d_Sc_readWord_3 : decode prog_5_method_5_code 3 = .ok (.istore_n 2, 1) := by decide +kernel
theorem d_Sc_readWord_4 : decode prog_5_method_5_code 4 = .ok (.iload_n 2, 1) := by decide +kernel
theorem d_Sc_readWord_5 : decode prog_5_method_5_code 5 = .ok (.ldc 76, 2) := by decide +kernel
theorem d_Sc_readWord_7 : decode prog_5_method_5_code 7 = .ok (.invokevirtual 78, 3) := by decide +kernel
theorem d_Sc_readWord_10 : decode prog_5_method_5_code 10 = .ok (.if_icmp .ge 108, 3) := by decide +kernel
theorem d_Sc_readWord_13 : decode prog_5_method_5_code 13 = .ok (.iconst 0, 1) := by decide +kernel
theorem d_Sc_readWord_14 : decode prog_5_method_5_code 14 = .ok (.istore_n 3, 1) := by decide +kernel
theorem d_Sc_readWord_15 : decode prog_5_method_5_code 15 = .ok (.iload_n 3, 1) := by decide +kernel
theorem d_Sc_readWord_16 : decode prog_5_method_5_code 16 = .ok (.iconst 5, 1) := by decide +kernel
theorem d_Sc_readWord_17 : decode prog_5_method_5_code 17 = .ok (.if_icmp .ge 57, 3) := by decide +kernel
theorem d_Sc_readWord_20 : decode prog_5_method_5_code 20 = .ok (.ldc 76, 2) := by decide +kernel
theorem d_Sc_readWord_22 : decode prog_5_method_5_code 22 = .ok (.iload_n 2, 1) := by decide +kernel
theorem d_Sc_readWord_23 : decode prog_5_method_5_code 23 = .ok (.iload_n 3, 1) := by decide +kernel
theorem d_Sc_readWord_24 : decode prog_5_method_5_code 24 = .ok (.iadd, 1) := by decide +kernel
theorem d_Sc_readWord_25 : decode prog_5_method_5_code 25 = .ok (.invokevirtual 82, 3) := by decide +kernel
theorem d_Sc_readWord_28 : decode prog_5_method_5_code 28 = .ok (.bipush 46, 2) := by decide +kernel
theorem d_Sc_readWord_30 : decode prog_5_method_5_code 30 = .ok (.if_icmp .eq 44, 3) := by decide +kernel
theorem d_Sc_readWord_33 : decode prog_5_method_5_code 33 = .ok (.aload_n 0, 1) := by decide +kernel
theorem d_Sc_readWord_34 : decode prog_5_method_5_code 34 = .ok (.getfield 48, 3) := by decide +kernel
theorem d_Sc_readWord_37 : decode prog_5_method_5_code 37 = .ok (.iload_n 3, 1) := by decide +kernel
theorem d_Sc_readWord_38 : decode prog_5_method_5_code 38 = .ok (.iadd, 1) := by decide +kernel
theorem d_Sc_readWord_39 : decode prog_5_method_5_code 39 = .ok (.aload_n 0, 1) := by decide +kernel
theorem d_Sc_readWord_40 : decode prog_5_method_5_code 40 = .ok (.getfield 45, 3) := by decide +kernel
theorem d_Sc_readWord_43 : decode prog_5_method_5_code 43 = .ok (.if_icmp .ge 31, 3) := by decide +kernel
theorem d_Sc_readWord_46 : decode prog_5_method_5_code 46 = .ok (.ldc 76, 2) := by decide +kernel
theorem d_Sc_readWord_48 : decode prog_5_method_5_code 48 = .ok (.iload_n 2, 1) := by decide +kernel
theorem d_Sc_readWord_49 : decode prog_5_method_5_code 49 = .ok (.iload_n 3, 1) := by decide +kernel
theorem d_Sc_readWord_50 : decode prog_5_method_5_code 50 = .ok (.iadd, 1) := by decide +kernel
theorem d_Sc_readWord_51 : decode prog_5_method_5_code 51 = .ok (.invokevirtual 82, 3) := by decide +kernel
theorem d_Sc_readWord_54 : decode prog_5_method_5_code 54 = .ok (.aload_n 0, 1) := by decide +kernel
theorem d_Sc_readWord_55 : decode prog_5_method_5_code 55 = .ok (.getfield 38, 3) := by decide +kernel
theorem d_Sc_readWord_58 : decode prog_5_method_5_code 58 = .ok (.aload_n 0, 1) := by decide +kernel
theorem d_Sc_readWord_59 : decode prog_5_method_5_code 59 = .ok (.getfield 48, 3) := by decide +kernel
theorem d_Sc_readWord_62 : decode prog_5_method_5_code 62 = .ok (.iload_n 3, 1) := by decide +kernel
theorem d_Sc_readWord_63 : decode prog_5_method_5_code 63 = .ok (.iadd, 1) := by decide +kernel
theorem d_Sc_readWord_64 : decode prog_5_method_5_code 64 = .ok (.caload, 1) := by decide +kernel
theorem d_Sc_readWord_65 : decode prog_5_method_5_code 65 = .ok (.if_icmp .ne 9, 3) := by decide +kernel
theorem d_Sc_readWord_68 : decode prog_5_method_5_code 68 = .ok (.iinc 3 1, 3) := by decide +kernel
theorem d_Sc_readWord_71 : decode prog_5_method_5_code 71 = .ok (.goto (-56), 3) := by decide +kernel
theorem d_Sc_readWord_74 : decode prog_5_method_5_code 74 = .ok (.iload_n 3, 1) := by decide +kernel
theorem d_Sc_readWord_75 : decode prog_5_method_5_code 75 = .ok (.iconst 5, 1) := by decide +kernel
theorem d_Sc_readWord_76 : decode prog_5_method_5_code 76 = .ok (.if_icmp .eq 16, 3) := by decide +kernel
theorem d_Sc_readWord_79 : decode prog_5_method_5_code 79 = .ok (.ldc 76, 2) := by decide +kernel
theorem d_Sc_readWord_81 : decode prog_5_method_5_code 81 = .ok (.iload_n 2, 1) := by decide +kernel
theorem d_Sc_readWord_82 : decode prog_5_method_5_code 82 = .ok (.iload_n 3, 1) := by decide +kernel
theorem d_Sc_readWord_83 : decode prog_5_method_5_code 83 = .ok (.iadd, 1) := by decide +kernel
theorem d_Sc_readWord_84 : decode prog_5_method_5_code 84 = .ok (.invokevirtual 82, 3) := by decide +kernel
theorem d_Sc_readWord_87 : decode prog_5_method_5_code 87 = .ok (.bipush 46, 2) := by decide +kernel
theorem d_Sc_readWord_89 : decode prog_5_method_5_code 89 = .ok (.if_icmp .ne 17, 3) := by decide +kernel
theorem d_Sc_readWord_92 : decode prog_5_method_5_code 92 = .ok (.aload_n 0, 1) := by decide +kernel
theorem d_Sc_readWord_93 : decode prog_5_method_5_code 93 = .ok (.dup, 1) := by decide +kernel
theorem d_Sc_readWord_94 : decode prog_5_method_5_code 94 = .ok (.getfield 48, 3) := by decide +kernel
theorem d_Sc_readWord_97 : decode prog_5_method_5_code 97 = .ok (.iload_n 3, 1) := by decide +kernel
theorem d_Sc_readWord_98 : decode prog_5_method_5_code 98 = .ok (.iadd, 1) := by decide +kernel
theorem d_Sc_readWord_99 : decode prog_5_method_5_code 99 = .ok (.putfield 48, 3) := by decide +kernel
theorem d_Sc_readWord_102 : decode prog_5_method_5_code 102 = .ok (.iload_n 2, 1) := by decide +kernel
theorem d_Sc_readWord_103 : decode prog_5_method_5_code 103 = .ok (.iconst 5, 1) := by decide +kernel
theorem d_Sc_readWord_104 : decode prog_5_method_5_code 104 = .ok (.idiv, 1) := by decide +kernel
theorem d_Sc_readWord_105 : decode prog_5_method_5_code 105 = .ok (.ireturn, 1) := by decide +kernel
theorem d_Sc_readWord_106 : decode prog_5_method_5_code 106 = .ok (.iload_n 1, 1) := by decide +kernel
theorem d_Sc_readWord_107 : decode prog_5_method_5_code 107 = .ok (.iload_n 3, 1) := by decide +kernel
theorem d_Sc_readWord_108 : decode prog_5_method_5_code 108 = .ok (.invokestatic 28, 3) := by decide +kernel
theorem d_Sc_readWord_111 : decode prog_5_method_5_code 111 = .ok (.istore_n 1, 1) := by decide +kernel
theorem d_Sc_readWord_112 : decode prog_5_method_5_code 112 = .ok (.iinc 2 5, 3) := by decide +kernel
theorem d_Sc_readWord_115 : decode prog_5_method_5_code 115 = .ok (.goto (-111), 3) := by decide +kernel
theorem d_Sc_readWord_118 : decode prog_5_method_5_code 118 = .ok (.aload_n 0, 1) := by decide +kernel
theorem d_Sc_readWord_119 : decode prog_5_method_5_code 119 = .ok (.dup, 1) := by decide +kernel
theorem d_Sc_readWord_120 : decode prog_5_method_5_code 120 = .ok (.getfield 48, 3) := by decide +kernel
theorem d_Sc_readWord_123 : decode prog_5_method_5_code 123 = .ok (.iload_n 1, 1) := by decide +kernel
theorem d_Sc_readWord_124 : decode prog_5_method_5_code 124 = .ok (.iadd, 1) := by decide +kernel
theorem d_Sc_readWord_125 : decode prog_5_method_5_code 125 = .ok (.putfield 48, 3) := by decide +kernel
theorem d_Sc_readWord_128 : decode prog_5_method_5_code 128 = .ok (.iconst (-1), 1) := by decide +kernel
theorem d_Sc_readWord_129 : decode prog_5_method_5_code 129 = .ok (.ireturn, 1) := by decide +kernel
theorem d_Sg_length_0 : decode prog_17_method_54_code 0 = .ok (.aload_n 0, 1) := by decide +kernel
theorem d_Sg_length_1 : decode prog_17_method_54_code 1 = .ok (.getfield 9, 3) := by decide +kernel
theorem d_Sg_length_4 : decode prog_17_method_54_code 4 = .ok (.arraylength, 1) := by decide +kernel
theorem d_Sg_length_5 : decode prog_17_method_54_code 5 = .ok (.aload_n 0, 1) := by decide +kernel
theorem d_Sg_length_6 : decode prog_17_method_54_code 6 = .ok (.invokevirtual 335, 3) := by decide +kernel
theorem d_Sg_length_9 : decode prog_17_method_54_code 9 = .ok (.ishr, 1) := by decide +kernel
theorem d_Sg_length_10 : decode prog_17_method_54_code 10 = .ok (.ireturn, 1) := by decide +kernel
theorem d_Sg_coder_0 : decode prog_17_method_152_code 0 = .ok (.getstatic 38, 3) := by decide +kernel
theorem d_Sg_coder_3 : decode prog_17_method_152_code 3 = .ok (.ifCond .eq 10, 3) := by decide +kernel
theorem d_Sg_coder_6 : decode prog_17_method_152_code 6 = .ok (.aload_n 0, 1) := by decide +kernel
theorem d_Sg_coder_7 : decode prog_17_method_152_code 7 = .ok (.getfield 15, 3) := by decide +kernel
theorem d_Sg_coder_10 : decode prog_17_method_152_code 10 = .ok (.goto 4, 3) := by decide +kernel
theorem d_Sg_coder_13 : decode prog_17_method_152_code 13 = .ok (.iconst 1, 1) := by decide +kernel
theorem d_Sg_coder_14 : decode prog_17_method_152_code 14 = .ok (.ireturn, 1) := by decide +kernel
theorem d_Sg_charAt_0 : decode prog_17_method_56_code 0 = .ok (.aload_n 0, 1) := by decide +kernel
theorem d_Sg_charAt_1 : decode prog_17_method_56_code 1 = .ok (.invokevirtual 492, 3) := by decide +kernel
theorem d_Sg_charAt_4 : decode prog_17_method_56_code 4 = .ok (.ifCond .eq 12, 3) := by decide +kernel
theorem d_Sg_charAt_7 : decode prog_17_method_56_code 7 = .ok (.aload_n 0, 1) := by decide +kernel
theorem d_Sg_charAt_8 : decode prog_17_method_56_code 8 = .ok (.getfield 9, 3) := by decide +kernel
theorem d_Sg_charAt_11 : decode prog_17_method_56_code 11 = .ok (.iload_n 1, 1) := by decide +kernel
theorem d_Sg_charAt_12 : decode prog_17_method_56_code 12 = .ok (.invokestatic 495, 3) := by decide +kernel
theorem d_Sg_charAt_15 : decode prog_17_method_56_code 15 = .ok (.ireturn, 1) := by decide +kernel
theorem d_Sg_charAt_16 : decode prog_17_method_56_code 16 = .ok (.aload_n 0, 1) := by decide +kernel
theorem d_Sg_charAt_17 : decode prog_17_method_56_code 17 = .ok (.getfield 9, 3) := by decide +kernel
theorem d_Sg_charAt_20 : decode prog_17_method_56_code 20 = .ok (.iload_n 1, 1) := by decide +kernel
theorem d_Sg_charAt_21 : decode prog_17_method_56_code 21 = .ok (.invokestatic 498, 3) := by decide +kernel
theorem d_Sg_charAt_24 : decode prog_17_method_56_code 24 = .ok (.ireturn, 1) := by decide +kernel
theorem d_Sg_isLatin1_0 : decode prog_17_method_154_code 0 = .ok (.getstatic 38, 3) := by decide +kernel
theorem d_Sg_isLatin1_3 : decode prog_17_method_154_code 3 = .ok (.ifCond .eq 14, 3) := by decide +kernel
theorem d_Sg_isLatin1_6 : decode prog_17_method_154_code 6 = .ok (.aload_n 0, 1) := by decide +kernel
theorem d_Sg_isLatin1_7 : decode prog_17_method_154_code 7 = .ok (.getfield 15, 3) := by decide +kernel
theorem d_Sg_isLatin1_10 : decode prog_17_method_154_code 10 = .ok (.ifCond .ne 7, 3) := by decide +kernel
theorem d_Sg_isLatin1_13 : decode prog_17_method_154_code 13 = .ok (.iconst 1, 1) := by decide +kernel
theorem d_Sg_isLatin1_14 : decode prog_17_method_154_code 14 = .ok (.goto 4, 3) := by decide +kernel
theorem d_Sg_isLatin1_17 : decode prog_17_method_154_code 17 = .ok (.iconst 0, 1) := by decide +kernel
theorem d_Sg_isLatin1_18 : decode prog_17_method_154_code 18 = .ok (.ireturn, 1) := by decide +kernel
theorem d_SL_charAt_0 : decode prog_18_method_2_code 0 = .ok (.iload_n 1, 1) := by decide +kernel
theorem d_SL_charAt_1 : decode prog_18_method_2_code 1 = .ok (.aload_n 0, 1) := by decide +kernel
theorem d_SL_charAt_2 : decode prog_18_method_2_code 2 = .ok (.arraylength, 1) := by decide +kernel
theorem d_SL_charAt_3 : decode prog_18_method_2_code 3 = .ok (.invokestatic 9, 3) := by decide +kernel
theorem d_SL_charAt_6 : decode prog_18_method_2_code 6 = .ok (.aload_n 0, 1) := by decide +kernel
theorem d_SL_charAt_7 : decode prog_18_method_2_code 7 = .ok (.iload_n 1, 1) := by decide +kernel
theorem d_SL_charAt_8 : decode prog_18_method_2_code 8 = .ok (.baload, 1) := by decide +kernel
theorem d_SL_charAt_9 : decode prog_18_method_2_code 9 = .ok (.sipush 255, 3) := by decide +kernel
theorem d_SL_charAt_12 : decode prog_18_method_2_code 12 = .ok (.iand, 1) := by decide +kernel
theorem d_SL_charAt_13 : decode prog_18_method_2_code 13 = .ok (.i2c, 1) := by decide +kernel
theorem d_SL_charAt_14 : decode prog_18_method_2_code 14 = .ok (.ireturn, 1) := by decide +kernel
theorem d_Sg_checkIndex_0 : decode prog_17_method_155_code 0 = .ok (.iload_n 0, 1) := by decide +kernel
theorem d_Sg_checkIndex_1 : decode prog_17_method_155_code 1 = .ok (.iload_n 1, 1) := by decide +kernel
theorem d_Sg_checkIndex_2 : decode prog_17_method_155_code 2 = .ok (.getstatic 1053, 3) := by decide +kernel
theorem d_Sg_checkIndex_5 : decode prog_17_method_155_code 5 = .ok (.invokestatic 1059, 3) := by decide +kernel
theorem d_Sg_checkIndex_8 : decode prog_17_method_155_code 8 = .ok (.pop, 1) := by decide +kernel
theorem d_Sg_checkIndex_9 : decode prog_17_method_155_code 9 = .ok (.return_, 1) := by decide +kernel
theorem d_Pr_checkIndex_0 : decode prog_22_method_11_code 0 = .ok (.iload_n 0, 1) := by decide +kernel
theorem d_Pr_checkIndex_1 : decode prog_22_method_11_code 1 = .ok (.ifCond .lt 8, 3) := by decide +kernel
theorem d_Pr_checkIndex_4 : decode prog_22_method_11_code 4 = .ok (.iload_n 0, 1) := by decide +kernel
theorem d_Pr_checkIndex_5 : decode prog_22_method_11_code 5 = .ok (.iload_n 1, 1) := by decide +kernel
theorem d_Pr_checkIndex_6 : decode prog_22_method_11_code 6 = .ok (.if_icmp .lt 10, 3) := by decide +kernel
theorem d_Pr_checkIndex_9 : decode prog_22_method_11_code 9 = .ok (.aload_n 2, 1) := by decide +kernel
theorem d_Pr_checkIndex_10 : decode prog_22_method_11_code 10 = .ok (.iload_n 0, 1) := by decide +kernel
theorem d_Pr_checkIndex_11 : decode prog_22_method_11_code 11 = .ok (.iload_n 1, 1) := by decide +kernel
theorem d_Pr_checkIndex_12 : decode prog_22_method_11_code 12 = .ok (.invokestatic 95, 3) := by decide +kernel
theorem d_Pr_checkIndex_15 : decode prog_22_method_11_code 15 = .ok (.athrow, 1) := by decide +kernel
theorem d_Pr_checkIndex_16 : decode prog_22_method_11_code 16 = .ok (.iload_n 0, 1) := by decide +kernel
theorem d_Pr_checkIndex_17 : decode prog_22_method_11_code 17 = .ok (.ireturn, 1) := by decide +kernel
theorem d_Sc_passes_0 : decode prog_5_method_4_code 0 = .ok (.aload_n 0, 1) := by decide +kernel
theorem d_Sc_passes_1 : decode prog_5_method_4_code 1 = .ok (.getfield 48, 3) := by decide +kernel
theorem d_Sc_passes_4 : decode prog_5_method_4_code 4 = .ok (.aload_n 0, 1) := by decide +kernel
theorem d_Sc_passes_5 : decode prog_5_method_4_code 5 = .ok (.getfield 45, 3) := by decide +kernel
theorem d_Sc_passes_8 : decode prog_5_method_4_code 8 = .ok (.if_icmp .ge 16, 3) := by decide +kernel
theorem d_Sc_passes_11 : decode prog_5_method_4_code 11 = .ok (.aload_n 0, 1) := by decide +kernel
theorem d_Sc_passes_12 : decode prog_5_method_4_code 12 = .ok (.getfield 38, 3) := by decide +kernel
theorem d_Sc_passes_15 : decode prog_5_method_4_code 15 = .ok (.aload_n 0, 1) := by decide +kernel
theorem d_Sc_passes_16 : decode prog_5_method_4_code 16 = .ok (.getfield 48, 3) := by decide +kernel
theorem d_Sc_passes_19 : decode prog_5_method_4_code 19 = .ok (.caload, 1) := by decide +kernel
theorem d_Sc_passes_20 : decode prog_5_method_4_code 20 = .ok (.iload_n 1, 1) := by decide +kernel
theorem d_Sc_passes_21 : decode prog_5_method_4_code 21 = .ok (.if_icmp .eq 5, 3) := by decide +kernel
theorem d_Sc_passes_24 : decode prog_5_method_4_code 24 = .ok (.iconst 0, 1) := by decide +kernel
theorem d_Sc_passes_25 : decode prog_5_method_4_code 25 = .ok (.ireturn, 1) := by decide +kernel
theorem d_Sc_passes_26 : decode prog_5_method_4_code 26 = .ok (.aload_n 0, 1) := by decide +kernel
theorem d_Sc_passes_27 : decode prog_5_method_4_code 27 = .ok (.dup, 1) := by decide +kernel
theorem d_Sc_passes_28 : decode prog_5_method_4_code 28 = .ok (.getfield 48, 3) := by decide +kernel
theorem d_Sc_passes_31 : decode prog_5_method_4_code 31 = .ok (.iconst 1, 1) := by decide +kernel
theorem d_Sc_passes_32 : decode prog_5_method_4_code 32 = .ok (.iadd, 1) := by decide +kernel
theorem d_Sc_passes_33 : decode prog_5_method_4_code 33 = .ok (.putfield 48, 3) := by decide +kernel
theorem d_Sc_passes_36 : decode prog_5_method_4_code 36 = .ok (.iconst 1, 1) := by decide +kernel
theorem d_Sc_passes_37 : decode prog_5_method_4_code 37 = .ok (.ireturn, 1) := by decide +kernel
theorem d_Sc_readNumber_0 : decode prog_5_method_6_code 0 = .ok (.iconst (-1), 1) := by decide +kernel
theorem d_Sc_readNumber_1 : decode prog_5_method_6_code 1 = .ok (.istore_n 1, 1) := by decide +kernel
theorem d_Sc_readNumber_2 : decode prog_5_method_6_code 2 = .ok (.iconst 0, 1) := by decide +kernel
theorem d_Sc_readNumber_3 : decode prog_5_method_6_code 3 = .ok (.istore_n 2, 1) := by decide +kernel
theorem d_Sc_readNumber_4 : decode prog_5_method_6_code 4 = .ok (.iload_n 2, 1) := by decide +kernel
theorem d_Sc_readNumber_5 : decode prog_5_method_6_code 5 = .ok (.iconst 2, 1) := by decide +kernel
theorem d_Sc_readNumber_6 : decode prog_5_method_6_code 6 = .ok (.if_icmp .ge 82, 3) := by decide +kernel
theorem d_Sc_readNumber_9 : decode prog_5_method_6_code 9 = .ok (.aload_n 0, 1) := by decide +kernel
theorem d_Sc_readNumber_10 : decode prog_5_method_6_code 10 = .ok (.getfield 48, 3) := by decide +kernel
theorem d_Sc_readNumber_13 : decode prog_5_method_6_code 13 = .ok (.aload_n 0, 1) := by decide +kernel
theorem d_Sc_readNumber_14 : decode prog_5_method_6_code 14 = .ok (.getfield 45, 3) := by decide +kernel
theorem d_Sc_readNumber_17 : decode prog_5_method_6_code 17 = .ok (.if_icmp .ge 31, 3) := by decide +kernel
theorem d_Sc_readNumber_20 : decode prog_5_method_6_code 20 = .ok (.aload_n 0, 1) := by decide +kernel
theorem d_Sc_readNumber_21 : decode prog_5_method_6_code 21 = .ok (.getfield 38, 3) := by decide +kernel
theorem d_Sc_readNumber_24 : decode prog_5_method_6_code 24 = .ok (.aload_n 0, 1) := by decide +kernel
theorem d_Sc_readNumber_25 : decode prog_5_method_6_code 25 = .ok (.getfield 48, 3) := by decide +kernel
theorem d_Sc_readNumber_28 : decode prog_5_method_6_code 28 = .ok (.caload, 1) := by decide +kernel
theorem d_Sc_readNumber_29 : decode prog_5_method_6_code 29 = .ok (.bipush 48, 2) := by decide +kernel
theorem d_Sc_readNumber_31 : decode prog_5_method_6_code 31 = .ok (.if_icmp .lt 17, 3) := by decide +kernel
theorem d_Sc_readNumber_34 : decode prog_5_method_6_code 34 = .ok (.aload_n 0, 1) := by decide +kernel
theorem d_Sc_readNumber_35 : decode prog_5_method_6_code 35 = .ok (.getfield 38, 3) := by decide +kernel
theorem d_Sc_readNumber_38 : decode prog_5_method_6_code 38 = .ok (.aload_n 0, 1) := by decide +kernel
theorem d_Sc_readNumber_39 : decode prog_5_method_6_code 39 = .ok (.getfield 48, 3) := by decide +kernel
theorem d_Sc_readNumber_42 : decode prog_5_method_6_code 42 = .ok (.caload, 1) := by decide +kernel
theorem d_Sc_readNumber_43 : decode prog_5_method_6_code 43 = .ok (.bipush 57, 2) := by decide +kernel
theorem d_Sc_readNumber_45 : decode prog_5_method_6_code 45 = .ok (.if_icmp .le 5, 3) := by decide +kernel
theorem d_Sc_readNumber_48 : decode prog_5_method_6_code 48 = .ok (.iload_n 1, 1) := by decide +kernel
theorem d_Sc_readNumber_49 : decode prog_5_method_6_code 49 = .ok (.ireturn, 1) := by decide +kernel
theorem d_Sc_readNumber_50 : decode prog_5_method_6_code 50 = .ok (.iload_n 1, 1) := by decide +kernel
theorem d_Sc_readNumber_51 : decode prog_5_method_6_code 51 = .ok (.iconst 0, 1) := by decide +kernel
theorem d_Sc_readNumber_52 : decode prog_5_method_6_code 52 = .ok (.invokestatic 28, 3) := by decide +kernel
theorem d_Sc_readNumber_55 : decode prog_5_method_6_code 55 = .ok (.bipush 10, 2) := by decide +kernel
theorem d_Sc_readNumber_57 : decode prog_5_method_6_code 57 = .ok (.imul, 1) := by decide +kernel
theorem d_Sc_readNumber_58 : decode prog_5_method_6_code 58 = .ok (.aload_n 0, 1) := by decide +kernel
theorem d_Sc_readNumber_59 : decode prog_5_method_6_code 59 = .ok (.getfield 38, 3) := by decide +kernel
theorem d_Sc_readNumber_62 : decode prog_5_method_6_code 62 = .ok (.aload_n 0, 1) := by decide +kernel
theorem d_Sc_readNumber_63 : decode prog_5_method_6_code 63 = .ok (.getfield 48, 3) := by decide +kernel
theorem d_Sc_readNumber_66 : decode prog_5_method_6_code 66 = .ok (.caload, 1) := by decide +kernel
theorem d_Sc_readNumber_67 : decode prog_5_method_6_code 67 = .ok (.iadd, 1) := by decide +kernel
theorem d_Sc_readNumber_68 : decode prog_5_method_6_code 68 = .ok (.bipush 48, 2) := by decide +kernel
theorem d_Sc_readNumber_70 : decode prog_5_method_6_code 70 = .ok (.isub, 1) := by decide +kernel
theorem d_Sc_readNumber_71 : decode prog_5_method_6_code 71 = .ok (.istore_n 1, 1) := by decide +kernel
theorem d_Sc_readNumber_72 : decode prog_5_method_6_code 72 = .ok (.aload_n 0, 1) := by decide +kernel
theorem d_Sc_readNumber_73 : decode prog_5_method_6_code 73 = .ok (.dup, 1) := by decide +kernel
theorem d_Sc_readNumber_74 : decode prog_5_method_6_code 74 = .ok (.getfield 48, 3) := by decide +kernel
theorem d_Sc_readNumber_77 : decode prog_5_method_6_code 77 = .ok (.iconst 1, 1) := by decide +kernel
theorem d_Sc_readNumber_78 : decode prog_5_method_6_code 78 = .ok (.iadd, 1) := by decide +kernel
theorem d_Sc_readNumber_79 : decode prog_5_method_6_code 79 = .ok (.putfield 48, 3) := by decide +kernel
theorem d_Sc_readNumber_82 : decode prog_5_method_6_code 82 = .ok (.iinc 2 1, 3) := by decide +kernel
theorem d_Sc_readNumber_85 : decode prog_5_method_6_code 85 = .ok (.goto (-81), 3) := by decide +kernel
theorem d_Sc_readNumber_88 : decode prog_5_method_6_code 88 = .ok (.iload_n 1, 1) := by decide +kernel
theorem d_Sc_readNumber_89 : decode prog_5_method_6_code 89 = .ok (.ireturn, 1) := by decide +kernel
theorem d_Sc_readEither_0 : decode prog_5_method_7_code 0 = .ok (.iconst 0, 1) := by decide +kernel
theorem d_Sc_readEither_1 : decode prog_5_method_7_code 1 = .ok (.istore_n 2, 1) := by decide +kernel
theorem d_Sc_readEither_2 : decode prog_5_method_7_code 2 = .ok (.iload_n 2, 1) := by decide +kernel
theorem d_Sc_readEither_3 : decode prog_5_method_7_code 3 = .ok (.bipush 100, 2) := by decide +kernel
theorem d_Sc_readEither_5 : decode prog_5_method_7_code 5 = .ok (.if_icmp .ge 41, 3) := by decide +kernel
theorem d_Sc_readEither_8 : decode prog_5_method_7_code 8 = .ok (.aload_n 0, 1) := by decide +kernel
theorem d_Sc_readEither_9 : decode prog_5_method_7_code 9 = .ok (.iload_n 1, 1) := by decide +kernel
theorem d_Sc_readEither_10 : decode prog_5_method_7_code 10 = .ok (.invokevirtual 86, 3) := by decide +kernel
theorem d_Sc_readEither_13 : decode prog_5_method_7_code 13 = .ok (.ifCond .ne 5, 3) := by decide +kernel
theorem d_Sc_readEither_16 : decode prog_5_method_7_code 16 = .ok (.iconst 0, 1) := by decide +kernel
theorem d_Sc_readEither_17 : decode prog_5_method_7_code 17 = .ok (.ireturn, 1) := by decide +kernel
theorem d_Sc_readEither_18 : decode prog_5_method_7_code 18 = .ok (.iload_n 2, 1) := by decide +kernel
theorem d_Sc_readEither_19 : decode prog_5_method_7_code 19 = .ok (.ifCond .le 10, 3) := by decide +kernel
theorem d_Sc_readEither_22 : decode prog_5_method_7_code 22 = .ok (.aload_n 0, 1) := by decide +kernel
theorem d_Sc_readEither_23 : decode prog_5_method_7_code 23 = .ok (.bipush (-3), 2) := by decide +kernel
theorem d_Sc_readEither_25 : decode prog_5_method_7_code 25 = .ok (.invokevirtual 73, 3) := by decide +kernel
theorem d_Sc_readEither_28 : decode prog_5_method_7_code 28 = .ok (.pop, 1) := by decide +kernel
theorem d_Sc_readEither_29 : decode prog_5_method_7_code 29 = .ok (.aload_n 0, 1) := by decide +kernel
theorem d_Sc_readEither_30 : decode prog_5_method_7_code 30 = .ok (.bipush 124, 2) := by decide +kernel
theorem d_Sc_readEither_32 : decode prog_5_method_7_code 32 = .ok (.invokevirtual 58, 3) := by decide +kernel
theorem d_Sc_readEither_35 : decode prog_5_method_7_code 35 = .ok (.ifCond .ne 5, 3) := by decide +kernel
theorem d_Sc_readEither_38 : decode prog_5_method_7_code 38 = .ok (.iconst 1, 1) := by decide +kernel
theorem d_Sc_readEither_39 : decode prog_5_method_7_code 39 = .ok (.ireturn, 1) := by decide +kernel
theorem d_Sc_readEither_40 : decode prog_5_method_7_code 40 = .ok (.iinc 2 1, 3) := by decide +kernel
theorem d_Sc_readEither_43 : decode prog_5_method_7_code 43 = .ok (.goto (-41), 3) := by decide +kernel
theorem d_Sc_readEither_46 : decode prog_5_method_7_code 46 = .ok (.iconst 0, 1) := by decide +kernel
theorem d_Sc_readEither_47 : decode prog_5_method_7_code 47 = .ok (.ireturn, 1) := by decide +kernel
theorem d_Sc_readBoth_0 : decode prog_5_method_8_code 0 = .ok (.iconst 0, 1) := by decide +kernel
theorem d_Sc_readBoth_1 : decode prog_5_method_8_code 1 = .ok (.istore_n 2, 1) := by decide +kernel
theorem d_Sc_readBoth_2 : decode prog_5_method_8_code 2 = .ok (.iload_n 2, 1) := by decide +kernel
theorem d_Sc_readBoth_3 : decode prog_5_method_8_code 3 = .ok (.bipush 100, 2) := by decide +kernel
theorem d_Sc_readBoth_5 : decode prog_5_method_8_code 5 = .ok (.if_icmp .ge 41, 3) := by decide +kernel
theorem d_Sc_readBoth_8 : decode prog_5_method_8_code 8 = .ok (.aload_n 0, 1) := by decide +kernel
theorem d_Sc_readBoth_9 : decode prog_5_method_8_code 9 = .ok (.iload_n 1, 1) := by decide +kernel
theorem d_Sc_readBoth_10 : decode prog_5_method_8_code 10 = .ok (.invokevirtual 89, 3) := by decide +kernel
theorem d_Sc_readBoth_13 : decode prog_5_method_8_code 13 = .ok (.ifCond .ne 5, 3) := by decide +kernel
theorem d_Sc_readBoth_16 : decode prog_5_method_8_code 16 = .ok (.iconst 0, 1) := by decide +kernel
theorem d_Sc_readBoth_17 : decode prog_5_method_8_code 17 = .ok (.ireturn, 1) := by decide +kernel
theorem d_Sc_readBoth_18 : decode prog_5_method_8_code 18 = .ok (.iload_n 2, 1) := by decide +kernel
theorem d_Sc_readBoth_19 : decode prog_5_method_8_code 19 = .ok (.ifCond .le 10, 3) := by decide +kernel
theorem d_Sc_readBoth_22 : decode prog_5_method_8_code 22 = .ok (.aload_n 0, 1) := by decide +kernel
theorem d_Sc_readBoth_23 : decode prog_5_method_8_code 23 = .ok (.bipush (-2), 2) := by decide +kernel
theorem d_Sc_readBoth_25 : decode prog_5_method_8_code 25 = .ok (.invokevirtual 73, 3) := by decide +kernel
theorem d_Sc_readBoth_28 : decode prog_5_method_8_code 28 = .ok (.pop, 1) := by decide +kernel
theorem d_Sc_readBoth_29 : decode prog_5_method_8_code 29 = .ok (.aload_n 0, 1) := by decide +kernel
theorem d_Sc_readBoth_30 : decode prog_5_method_8_code 30 = .ok (.bipush 38, 2) := by decide +kernel
theorem d_Sc_readBoth_32 : decode prog_5_method_8_code 32 = .ok (.invokevirtual 58, 3) := by decide +kernel
theorem d_Sc_readBoth_35 : decode prog_5_method_8_code 35 = .ok (.ifCond .ne 5, 3) := by decide +kernel
theorem d_Sc_readBoth_38 : decode prog_5_method_8_code 38 = .ok (.iconst 1, 1) := by decide +kernel
theorem d_Sc_readBoth_39 : decode prog_5_method_8_code 39 = .ok (.ireturn, 1) := by decide +kernel
theorem d_Sc_readBoth_40 : decode prog_5_method_8_code 40 = .ok (.iinc 2 1, 3) := by decide +kernel
theorem d_Sc_readBoth_43 : decode prog_5_method_8_code 43 = .ok (.goto (-41), 3) := by decide +kernel
theorem d_Sc_readBoth_46 : decode prog_5_method_8_code 46 = .ok (.iconst 0, 1) := by decide +kernel
theorem d_Sc_readBoth_47 : decode prog_5_method_8_code 47 = .ok (.ireturn, 1) := by decide +kernel
theorem d_Sc_readOne_0 : decode prog_5_method_9_code 0 = .ok (.aload_n 0, 1) := by decide +kernel
theorem d_Sc_readOne_1 : decode prog_5_method_9_code 1 = .ok (.getfield 48, 3) := by decide +kernel
theorem d_Sc_readOne_4 : decode prog_5_method_9_code 4 = .ok (.aload_n 0, 1) := by decide +kernel
theorem d_Sc_readOne_5 : decode prog_5_method_9_code 5 = .ok (.getfield 45, 3) := by decide +kernel
theorem d_Sc_readOne_8 : decode prog_5_method_9_code 8 = .ok (.if_icmp .lt 5, 3) := by decide +kernel
theorem d_Sc_readOne_11 : decode prog_5_method_9_code 11 = .ok (.iconst 0, 1) := by decide +kernel
theorem d_Sc_readOne_12 : decode prog_5_method_9_code 12 = .ok (.ireturn, 1) := by decide +kernel
theorem d_Sc_readOne_13 : decode prog_5_method_9_code 13 = .ok (.aload_n 0, 1) := by decide +kernel
theorem d_Sc_readOne_14 : decode prog_5_method_9_code 14 = .ok (.getfield 38, 3) := by decide +kernel
theorem d_Sc_readOne_17 : decode prog_5_method_9_code 17 = .ok (.aload_n 0, 1) := by decide +kernel
theorem d_Sc_readOne_18 : decode prog_5_method_9_code 18 = .ok (.getfield 48, 3) := by decide +kernel
theorem d_Sc_readOne_21 : decode prog_5_method_9_code 21 = .ok (.caload, 1) := by decide +kernel
theorem d_Sc_readOne_22 : decode prog_5_method_9_code 22 = .ok (.bipush 33, 2) := by decide +kernel
theorem d_Sc_readOne_24 : decode prog_5_method_9_code 24 = .ok (.if_icmp .ne 7, 3) := by decide +kernel
theorem d_Sc_readOne_27 : decode prog_5_method_9_code 27 = .ok (.iconst 1, 1) := by decide +kernel
theorem d_Sc_readOne_28 : decode prog_5_method_9_code 28 = .ok (.goto 4, 3) := by decide +kernel
theorem d_Sc_readOne_31 : decode prog_5_method_9_code 31 = .ok (.iconst 0, 1) := by decide +kernel
theorem d_Sc_readOne_32 : decode prog_5_method_9_code 32 = .ok (.istore_n 2, 1) := by decide +kernel
theorem d_Sc_readOne_33 : decode prog_5_method_9_code 33 = .ok (.iload_n 2, 1) := by decide +kernel
theorem d_Sc_readOne_34 : decode prog_5_method_9_code 34 = .ok (.ifCond .ne 22, 3) := by decide +kernel
theorem d_Sc_readOne_37 : decode prog_5_method_9_code 37 = .ok (.aload_n 0, 1) := by decide +kernel
theorem d_Sc_readOne_38 : decode prog_5_method_9_code 38 = .ok (.getfield 38, 3) := by decide +kernel
theorem d_Sc_readOne_41 : decode prog_5_method_9_code 41 = .ok (.aload_n 0, 1) := by decide +kernel
theorem d_Sc_readOne_42 : decode prog_5_method_9_code 42 = .ok (.getfield 48, 3) := by decide +kernel
theorem d_Sc_readOne_45 : decode prog_5_method_9_code 45 = .ok (.caload, 1) := by decide +kernel
theorem d_Sc_readOne_46 : decode prog_5_method_9_code 46 = .ok (.bipush 40, 2) := by decide +kernel
theorem d_Sc_readOne_48 : decode prog_5_method_9_code 48 = .ok (.if_icmp .eq 8, 3) := by decide +kernel
theorem d_Sc_readOne_51 : decode prog_5_method_9_code 51 = .ok (.aload_n 0, 1) := by decide +kernel
theorem d_Sc_readOne_52 : decode prog_5_method_9_code 52 = .ok (.invokevirtual 92, 3) := by decide +kernel
theorem d_Sc_readOne_55 : decode prog_5_method_9_code 55 = .ok (.ireturn, 1) := by decide +kernel
theorem d_Sc_readOne_56 : decode prog_5_method_9_code 56 = .ok (.iload_n 1, 1) := by decide +kernel
theorem d_Sc_readOne_57 : decode prog_5_method_9_code 57 = .ok (.iconst 4, 1) := by decide +kernel
theorem d_Sc_readOne_58 : decode prog_5_method_9_code 58 = .ok (.if_icmp .lt 5, 3) := by decide +kernel
theorem d_Sc_readOne_61 : decode prog_5_method_9_code 61 = .ok (.iconst 0, 1) := by decide +kernel
theorem d_Sc_readOne_62 : decode prog_5_method_9_code 62 = .ok (.ireturn, 1) := by decide +kernel
theorem d_Sc_readOne_63 : decode prog_5_method_9_code 63 = .ok (.aload_n 0, 1) := by decide +kernel
theorem d_Sc_readOne_64 : decode prog_5_method_9_code 64 = .ok (.dup, 1) := by decide +kernel
theorem d_Sc_readOne_65 : decode prog_5_method_9_code 65 = .ok (.getfield 48, 3) := by decide +kernel
theorem d_Sc_readOne_68 : decode prog_5_method_9_code 68 = .ok (.iconst 1, 1) := by decide +kernel
theorem d_Sc_readOne_69 : decode prog_5_method_9_code 69 = .ok (.iadd, 1) := by decide +kernel
theorem d_Sc_readOne_70 : decode prog_5_method_9_code 70 = .ok (.putfield 48, 3) := by decide +kernel
theorem d_Sc_readOne_73 : decode prog_5_method_9_code 73 = .ok (.iload_n 2, 1) := by decide +kernel
theorem d_Sc_readOne_74 : decode prog_5_method_9_code 74 = .ok (.ifCond .eq 27, 3) := by decide +kernel
theorem d_Sc_readOne_77 : decode prog_5_method_9_code 77 = .ok (.aload_n 0, 1) := by decide +kernel
theorem d_Sc_readOne_78 : decode prog_5_method_9_code 78 = .ok (.iload_n 1, 1) := by decide +kernel
theorem d_Sc_readOne_79 : decode prog_5_method_9_code 79 = .ok (.iconst 1, 1) := by decide +kernel
theorem d_Sc_readOne_80 : decode prog_5_method_9_code 80 = .ok (.iadd, 1) := by decide +kernel
theorem d_Sc_readOne_81 : decode prog_5_method_9_code 81 = .ok (.invokevirtual 89, 3) := by decide +kernel
theorem d_Sc_readOne_84 : decode prog_5_method_9_code 84 = .ok (.ifCond .eq 15, 3) := by decide +kernel
theorem d_Sc_readOne_87 : decode prog_5_method_9_code 87 = .ok (.aload_n 0, 1) := by decide +kernel
theorem d_Sc_readOne_88 : decode prog_5_method_9_code 88 = .ok (.iconst (-1), 1) := by decide +kernel
theorem d_Sc_readOne_89 : decode prog_5_method_9_code 89 = .ok (.invokevirtual 73, 3) := by decide +kernel
theorem d_Sc_readOne_92 : decode prog_5_method_9_code 92 = .ok (.ifCond .eq 7, 3) := by decide +kernel
theorem d_Sc_readOne_95 : decode prog_5_method_9_code 95 = .ok (.iconst 1, 1) := by decide +kernel
theorem d_Sc_readOne_96 : decode prog_5_method_9_code 96 = .ok (.goto 4, 3) := by decide +kernel
theorem d_Sc_readOne_99 : decode prog_5_method_9_code 99 = .ok (.iconst 0, 1) := by decide +kernel
theorem d_Sc_readOne_100 : decode prog_5_method_9_code 100 = .ok (.ireturn, 1) := by decide +kernel
theorem d_Sc_readOne_101 : decode prog_5_method_9_code 101 = .ok (.aload_n 0, 1) := by decide +kernel
theorem d_Sc_readOne_102 : decode prog_5_method_9_code 102 = .ok (.iload_n 1, 1) := by decide +kernel
theorem d_Sc_readOne_103 : decode prog_5_method_9_code 103 = .ok (.iconst 1, 1) := by decide +kernel
theorem d_Sc_readOne_104 : decode prog_5_method_9_code 104 = .ok (.iadd, 1) := by decide +kernel
theorem d_Sc_readOne_105 : decode prog_5_method_9_code 105 = .ok (.invokevirtual 69, 3) := by decide +kernel
theorem d_Sc_readOne_108 : decode prog_5_method_9_code 108 = .ok (.ifCond .eq 16, 3) := by decide +kernel
theorem d_Sc_readOne_111 : decode prog_5_method_9_code 111 = .ok (.aload_n 0, 1) := by decide +kernel
theorem d_Sc_readOne_112 : decode prog_5_method_9_code 112 = .ok (.bipush 41, 2) := by decide +kernel
theorem d_Sc_readOne_114 : decode prog_5_method_9_code 114 = .ok (.invokevirtual 58, 3) := by decide +kernel
theorem d_Sc_readOne_117 : decode prog_5_method_9_code 117 = .ok (.ifCond .eq 7, 3) := by decide +kernel
theorem d_Sc_readOne_120 : decode prog_5_method_9_code 120 = .ok (.iconst 1, 1) := by decide +kernel
theorem d_Sc_readOne_121 : decode prog_5_method_9_code 121 = .ok (.goto 4, 3) := by decide +kernel
theorem d_Sc_readOne_124 : decode prog_5_method_9_code 124 = .ok (.iconst 0, 1) := by decide +kernel
theorem d_Sc_readOne_125 : decode prog_5_method_9_code 125 = .ok (.ireturn, 1) := by decide +kernel
theorem d_Sc_readTest_0 : decode prog_5_method_10_code 0 = .ok (.ldc 95, 2) := by decide +kernel
theorem d_Sc_readTest_2 : decode prog_5_method_10_code 2 = .ok (.aload_n 0, 1) := by decide +kernel
theorem d_Sc_readTest_3 : decode prog_5_method_10_code 3 = .ok (.getfield 38, 3) := by decide +kernel
theorem d_Sc_readTest_6 : decode prog_5_method_10_code 6 = .ok (.aload_n 0, 1) := by decide +kernel
theorem d_Sc_readTest_7 : decode prog_5_method_10_code 7 = .ok (.getfield 48, 3) := by decide +kernel
theorem d_Sc_readTest_10 : decode prog_5_method_10_code 10 = .ok (.caload, 1) := by decide +kernel
theorem d_Sc_readTest_11 : decode prog_5_method_10_code 11 = .ok (.invokevirtual 97, 3) := by decide +kernel
theorem d_Sc_readTest_14 : decode prog_5_method_10_code 14 = .ok (.istore_n 1, 1) := by decide +kernel
theorem d_Sc_readTest_15 : decode prog_5_method_10_code 15 = .ok (.iload_n 1, 1) := by decide +kernel
theorem d_Sc_readTest_16 : decode prog_5_method_10_code 16 = .ok (.ifCond .ge 5, 3) := by decide +kernel
theorem d_Sc_readTest_19 : decode prog_5_method_10_code 19 = .ok (.iconst 0, 1) := by decide +kernel
theorem d_Sc_readTest_20 : decode prog_5_method_10_code 20 = .ok (.ireturn, 1) := by decide +kernel
theorem d_Sc_readTest_21 : decode prog_5_method_10_code 21 = .ok (.aload_n 0, 1) := by decide +kernel
theorem d_Sc_readTest_22 : decode prog_5_method_10_code 22 = .ok (.dup, 1) := by decide +kernel
theorem d_Sc_readTest_23 : decode prog_5_method_10_code 23 = .ok (.getfield 48, 3) := by decide +kernel
theorem d_Sc_readTest_26 : decode prog_5_method_10_code 26 = .ok (.iconst 1, 1) := by decide +kernel
theorem d_Sc_readTest_27 : decode prog_5_method_10_code 27 = .ok (.iadd, 1) := by decide +kernel
theorem d_Sc_readTest_28 : decode prog_5_method_10_code 28 = .ok (.putfield 48, 3) := by decide +kernel
theorem d_Sc_readTest_31 : decode prog_5_method_10_code 31 = .ok (.aload_n 0, 1) := by decide +kernel
theorem d_Sc_readTest_32 : decode prog_5_method_10_code 32 = .ok (.getfield 48, 3) := by decide +kernel
theorem d_Sc_readTest_35 : decode prog_5_method_10_code 35 = .ok (.aload_n 0, 1) := by decide +kernel
theorem d_Sc_readTest_36 : decode prog_5_method_10_code 36 = .ok (.getfield 45, 3) := by decide +kernel
theorem d_Sc_readTest_39 : decode prog_5_method_10_code 39 = .ok (.if_icmp .ge 20, 3) := by decide +kernel
theorem d_Sc_readTest_42 : decode prog_5_method_10_code 42 = .ok (.ldc 101, 2) := by decide +kernel
theorem d_Sc_readTest_44 : decode prog_5_method_10_code 44 = .ok (.aload_n 0, 1) := by decide +kernel
theorem d_Sc_readTest_45 : decode prog_5_method_10_code 45 = .ok (.getfield 38, 3) := by decide +kernel
theorem d_Sc_readTest_48 : decode prog_5_method_10_code 48 = .ok (.aload_n 0, 1) := by decide +kernel
theorem d_Sc_readTest_49 : decode prog_5_method_10_code 49 = .ok (.getfield 48, 3) := by decide +kernel
theorem d_Sc_readTest_52 : decode prog_5_method_10_code 52 = .ok (.caload, 1) := by decide +kernel
theorem d_Sc_readTest_53 : decode prog_5_method_10_code 53 = .ok (.invokevirtual 97, 3) := by decide +kernel
theorem d_Sc_readTest_56 : decode prog_5_method_10_code 56 = .ok (.goto 4, 3) := by decide +kernel
theorem d_Sc_readTest_59 : decode prog_5_method_10_code 59 = .ok (.iconst (-1), 1) := by decide +kernel
theorem d_Sc_readTest_60 : decode prog_5_method_10_code 60 = .ok (.istore_n 2, 1) := by decide +kernel
theorem d_Sc_readTest_61 : decode prog_5_method_10_code 61 = .ok (.iload_n 2, 1) := by decide +kernel
theorem d_Sc_readTest_62 : decode prog_5_method_10_code 62 = .ok (.ifCond .ge 5, 3) := by decide +kernel
theorem d_Sc_readTest_65 : decode prog_5_method_10_code 65 = .ok (.iconst 0, 1) := by decide +kernel
theorem d_Sc_readTest_66 : decode prog_5_method_10_code 66 = .ok (.ireturn, 1) := by decide +kernel
theorem d_Sc_readTest_67 : decode prog_5_method_10_code 67 = .ok (.aload_n 0, 1) := by decide +kernel
theorem d_Sc_readTest_68 : decode prog_5_method_10_code 68 = .ok (.dup, 1) := by decide +kernel
theorem d_Sc_readTest_69 : decode prog_5_method_10_code 69 = .ok (.getfield 48, 3) := by decide +kernel
theorem d_Sc_readTest_72 : decode prog_5_method_10_code 72 = .ok (.iconst 1, 1) := by decide +kernel
theorem d_Sc_readTest_73 : decode prog_5_method_10_code 73 = .ok (.iadd, 1) := by decide +kernel
theorem d_Sc_readTest_74 : decode prog_5_method_10_code 74 = .ok (.putfield 48, 3) := by decide +kernel
theorem d_Sc_readTest_77 : decode prog_5_method_10_code 77 = .ok (.aload_n 0, 1) := by decide +kernel
theorem d_Sc_readTest_78 : decode prog_5_method_10_code 78 = .ok (.invokevirtual 66, 3) := by decide +kernel
theorem d_Sc_readTest_81 : decode prog_5_method_10_code 81 = .ok (.istore_n 3, 1) := by decide +kernel
theorem d_Sc_readTest_82 : decode prog_5_method_10_code 82 = .ok (.iload_n 3, 1) := by decide +kernel
theorem d_Sc_readTest_83 : decode prog_5_method_10_code 83 = .ok (.ifCond .lt 24, 3) := by decide +kernel
theorem d_Sc_readTest_86 : decode prog_5_method_10_code 86 = .ok (.aload_n 0, 1) := by decide +kernel
theorem d_Sc_readTest_87 : decode prog_5_method_10_code 87 = .ok (.iload_n 1, 1) := by decide +kernel
theorem d_Sc_readTest_88 : decode prog_5_method_10_code 88 = .ok (.iconst 3, 1) := by decide +kernel
theorem d_Sc_readTest_89 : decode prog_5_method_10_code 89 = .ok (.imul, 1) := by decide +kernel
theorem d_Sc_readTest_90 : decode prog_5_method_10_code 90 = .ok (.iload_n 2, 1) := by decide +kernel
theorem d_Sc_readTest_91 : decode prog_5_method_10_code 91 = .ok (.iadd, 1) := by decide +kernel
theorem d_Sc_readTest_92 : decode prog_5_method_10_code 92 = .ok (.bipush 100, 2) := by decide +kernel
theorem d_Sc_readTest_94 : decode prog_5_method_10_code 94 = .ok (.imul, 1) := by decide +kernel
theorem d_Sc_readTest_95 : decode prog_5_method_10_code 95 = .ok (.iload_n 3, 1) := by decide +kernel
theorem d_Sc_readTest_96 : decode prog_5_method_10_code 96 = .ok (.iadd, 1) := by decide +kernel
theorem d_Sc_readTest_97 : decode prog_5_method_10_code 97 = .ok (.invokevirtual 73, 3) := by decide +kernel
theorem d_Sc_readTest_100 : decode prog_5_method_10_code 100 = .ok (.ifCond .eq 7, 3) := by decide +kernel
theorem d_Sc_readTest_103 : decode prog_5_method_10_code 103 = .ok (.iconst 1, 1) := by decide +kernel
theorem d_Sc_readTest_104 : decode prog_5_method_10_code 104 = .ok (.goto 4, 3) := by decide +kernel
theorem d_Sc_readTest_107 : decode prog_5_method_10_code 107 = .ok (.iconst 0, 1) := by decide +kernel
theorem d_Sc_readTest_108 : decode prog_5_method_10_code 108 = .ok (.ireturn, 1) := by decide +kernel
theorem d_Sg_indexOf_I_0 : decode prog_17_method_79_code 0 = .ok (.aload_n 0, 1) := by decide +kernel
theorem d_Sg_indexOf_I_1 : decode prog_17_method_79_code 1 = .ok (.iload_n 1, 1) := by decide +kernel
theorem d_Sg_indexOf_I_2 : decode prog_17_method_79_code 2 = .ok (.iconst 0, 1) := by decide +kernel
theorem d_Sg_indexOf_I_3 : decode prog_17_method_79_code 3 = .ok (.invokevirtual 633, 3) := by decide +kernel
theorem d_Sg_indexOf_I_6 : decode prog_17_method_79_code 6 = .ok (.ireturn, 1) := by decide +kernel
theorem d_Sg_indexOf_II_0 : decode prog_17_method_80_code 0 = .ok (.aload_n 0, 1) := by decide +kernel
theorem d_Sg_indexOf_II_1 : decode prog_17_method_80_code 1 = .ok (.invokevirtual 492, 3) := by decide +kernel
theorem d_Sg_indexOf_II_4 : decode prog_17_method_80_code 4 = .ok (.ifCond .eq 19, 3) := by decide +kernel
theorem d_Sg_indexOf_II_7 : decode prog_17_method_80_code 7 = .ok (.aload_n 0, 1) := by decide +kernel
theorem d_Sg_indexOf_II_8 : decode prog_17_method_80_code 8 = .ok (.getfield 9, 3) := by decide +kernel
theorem d_Sg_indexOf_II_11 : decode prog_17_method_80_code 11 = .ok (.iload_n 1, 1) := by decide +kernel
theorem d_Sg_indexOf_II_12 : decode prog_17_method_80_code 12 = .ok (.iload_n 2, 1) := by decide +kernel
theorem d_Sg_indexOf_II_13 : decode prog_17_method_80_code 13 = .ok (.aload_n 0, 1) := by decide +kernel
theorem d_Sg_indexOf_II_14 : decode prog_17_method_80_code 14 = .ok (.invokevirtual 505, 3) := by decide +kernel
theorem d_Sg_indexOf_II_17 : decode prog_17_method_80_code 17 = .ok (.invokestatic 637, 3) := by decide +kernel
theorem d_Sg_indexOf_II_20 : decode prog_17_method_80_code 20 = .ok (.goto 16, 3) := by decide +kernel
theorem d_Sg_indexOf_II_23 : decode prog_17_method_80_code 23 = .ok (.aload_n 0, 1) := by decide +kernel
theorem d_Sg_indexOf_II_24 : decode prog_17_method_80_code 24 = .ok (.getfield 9, 3) := by decide +kernel
theorem d_Sg_indexOf_II_27 : decode prog_17_method_80_code 27 = .ok (.iload_n 1, 1) := by decide +kernel
theorem d_Sg_indexOf_II_28 : decode prog_17_method_80_code 28 = .ok (.iload_n 2, 1) := by decide +kernel
theorem d_Sg_indexOf_II_29 : decode prog_17_method_80_code 29 = .ok (.aload_n 0, 1) := by decide +kernel
theorem d_Sg_indexOf_II_30 : decode prog_17_method_80_code 30 = .ok (.invokevirtual 505, 3) := by decide +kernel
theorem d_Sg_indexOf_II_33 : decode prog_17_method_80_code 33 = .ok (.invokestatic 640, 3) := by decide +kernel
theorem d_Sg_indexOf_II_36 : decode prog_17_method_80_code 36 = .ok (.ireturn, 1) := by decide +kernel
theorem d_SL_indexOf_0 : decode prog_18_method_22_code 0 = .ok (.iload_n 1, 1) := by decide +kernel
theorem d_SL_indexOf_1 : decode prog_18_method_22_code 1 = .ok (.invokestatic 88, 3) := by decide +kernel
theorem d_SL_indexOf_4 : decode prog_18_method_22_code 4 = .ok (.ifCond .ne 5, 3) := by decide +kernel
theorem d_SL_indexOf_7 : decode prog_18_method_22_code 7 = .ok (.iconst (-1), 1) := by decide +kernel
theorem d_SL_indexOf_8 : decode prog_18_method_22_code 8 = .ok (.ireturn, 1) := by decide +kernel
theorem d_SL_indexOf_9 : decode prog_18_method_22_code 9 = .ok (.iload_n 2, 1) := by decide +kernel
theorem d_SL_indexOf_10 : decode prog_18_method_22_code 10 = .ok (.iconst 0, 1) := by decide +kernel
theorem d_SL_indexOf_11 : decode prog_18_method_22_code 11 = .ok (.invokestatic 92, 3) := by decide +kernel
theorem d_SL_indexOf_14 : decode prog_18_method_22_code 14 = .ok (.istore_n 2, 1) := by decide +kernel
theorem d_SL_indexOf_15 : decode prog_18_method_22_code 15 = .ok (.iload_n 3, 1) := by decide +kernel
theorem d_SL_indexOf_16 : decode prog_18_method_22_code 16 = .ok (.aload_n 0, 1) := by decide +kernel
theorem d_SL_indexOf_17 : decode prog_18_method_22_code 17 = .ok (.arraylength, 1) := by decide +kernel
theorem d_SL_indexOf_18 : decode prog_18_method_22_code 18 = .ok (.invokestatic 38, 3) := by decide +kernel
theorem d_SL_indexOf_21 : decode prog_18_method_22_code 21 = .ok (.istore_n 3, 1) := by decide +kernel
theorem d_SL_indexOf_22 : decode prog_18_method_22_code 22 = .ok (.iload_n 2, 1) := by decide +kernel
theorem d_SL_indexOf_23 : decode prog_18_method_22_code 23 = .ok (.iload_n 3, 1) := by decide +kernel
theorem d_SL_indexOf_24 : decode prog_18_method_22_code 24 = .ok (.if_icmp .lt 5, 3) := by decide +kernel
theorem d_SL_indexOf_27 : decode prog_18_method_22_code 27 = .ok (.iconst (-1), 1) := by decide +kernel
theorem d_SL_indexOf_28 : decode prog_18_method_22_code 28 = .ok (.ireturn, 1) := by decide +kernel
theorem d_SL_indexOf_29 : decode prog_18_method_22_code 29 = .ok (.aload_n 0, 1) := by decide +kernel
theorem d_SL_indexOf_30 : decode prog_18_method_22_code 30 = .ok (.iload_n 1, 1) := by decide +kernel
theorem d_SL_indexOf_31 : decode prog_18_method_22_code 31 = .ok (.iload_n 2, 1) := by decide +kernel
theorem d_SL_indexOf_32 : decode prog_18_method_22_code 32 = .ok (.iload_n 3, 1) := by decide +kernel
theorem d_SL_indexOf_33 : decode prog_18_method_22_code 33 = .ok (.invokestatic 95, 3) := by decide +kernel
theorem d_SL_indexOf_36 : decode prog_18_method_22_code 36 = .ok (.ireturn, 1) := by decide +kernel
theorem d_SL_canEncode_0 : decode prog_18_method_4_code 0 = .ok (.iload_n 0, 1) := by decide +kernel
theorem d_SL_canEncode_1 : decode prog_18_method_4_code 1 = .ok (.ifCond .lt 14, 3) := by decide +kernel
theorem d_SL_canEncode_4 : decode prog_18_method_4_code 4 = .ok (.iload_n 0, 1) := by decide +kernel
theorem d_SL_canEncode_5 : decode prog_18_method_4_code 5 = .ok (.sipush 255, 3) := by decide +kernel
theorem d_SL_canEncode_8 : decode prog_18_method_4_code 8 = .ok (.if_icmp .gt 7, 3) := by decide +kernel
theorem d_SL_canEncode_11 : decode prog_18_method_4_code 11 = .ok (.iconst 1, 1) := by decide +kernel
theorem d_SL_canEncode_12 : decode prog_18_method_4_code 12 = .ok (.goto 4, 3) := by decide +kernel
theorem d_SL_canEncode_15 : decode prog_18_method_4_code 15 = .ok (.iconst 0, 1) := by decide +kernel
theorem d_SL_canEncode_16 : decode prog_18_method_4_code 16 = .ok (.ireturn, 1) := by decide +kernel
theorem d_SL_indexOfChar_0 : decode prog_18_method_23_code 0 = .ok (.iload_n 1, 1) := by decide +kernel
theorem d_SL_indexOfChar_1 : decode prog_18_method_23_code 1 = .ok (.i2b, 1) := by decide +kernel
theorem d_SL_indexOfChar_2 : decode prog_18_method_23_code 2 = .ok (.istore 4, 2) := by decide +kernel
theorem d_SL_indexOfChar_4 : decode prog_18_method_23_code 4 = .ok (.iload_n 2, 1) := by decide +kernel
theorem d_SL_indexOfChar_5 : decode prog_18_method_23_code 5 = .ok (.istore 5, 2) := by decide +kernel
theorem d_SL_indexOfChar_7 : decode prog_18_method_23_code 7 = .ok (.iload 5, 2) := by decide +kernel
theorem d_SL_indexOfChar_9 : decode prog_18_method_23_code 9 = .ok (.iload_n 3, 1) := by decide +kernel
theorem d_SL_indexOfChar_10 : decode prog_18_method_23_code 10 = .ok (.if_icmp .ge 21, 3) := by decide +kernel
theorem d_SL_indexOfChar_13 : decode prog_18_method_23_code 13 = .ok (.aload_n 0, 1) := by decide +kernel
theorem d_SL_indexOfChar_14 : decode prog_18_method_23_code 14 = .ok (.iload 5, 2) := by decide +kernel
theorem d_SL_indexOfChar_16 : decode prog_18_method_23_code 16 = .ok (.baload, 1) := by decide +kernel
theorem d_SL_indexOfChar_17 : decode prog_18_method_23_code 17 = .ok (.iload 4, 2) := by decide +kernel
theorem d_SL_indexOfChar_19 : decode prog_18_method_23_code 19 = .ok (.if_icmp .ne 6, 3) := by decide +kernel
theorem d_SL_indexOfChar_22 : decode prog_18_method_23_code 22 = .ok (.iload 5, 2) := by decide +kernel
theorem d_SL_indexOfChar_24 : decode prog_18_method_23_code 24 = .ok (.ireturn, 1) := by decide +kernel
theorem d_SL_indexOfChar_25 : decode prog_18_method_23_code 25 = .ok (.iinc 5 1, 3) := by decide +kernel
theorem d_SL_indexOfChar_28 : decode prog_18_method_23_code 28 = .ok (.goto (-21), 3) := by decide +kernel
theorem d_SL_indexOfChar_31 : decode prog_18_method_23_code 31 = .ok (.iconst (-1), 1) := by decide +kernel
theorem d_SL_indexOfChar_32 : decode prog_18_method_23_code 32 = .ok (.ireturn, 1) := by decide +kernel
theorem d_Sc_emit_0 : decode prog_5_method_11_code 0 = .ok (.aload_n 0, 1) := by decide +kernel
theorem d_Sc_emit_1 : decode prog_5_method_11_code 1 = .ok (.getfield 51, 3) := by decide +kernel
theorem d_Sc_emit_4 : decode prog_5_method_11_code 4 = .ok (.aload_n 0, 1) := by decide +kernel
theorem d_Sc_emit_5 : decode prog_5_method_11_code 5 = .ok (.getfield 9, 3) := by decide +kernel
theorem d_Sc_emit_8 : decode prog_5_method_11_code 8 = .ok (.arraylength, 1) := by decide +kernel
theorem d_Sc_emit_9 : decode prog_5_method_11_code 9 = .ok (.if_icmp .lt 5, 3) := by decide +kernel
theorem d_Sc_emit_12 : decode prog_5_method_11_code 12 = .ok (.iconst 0, 1) := by decide +kernel
theorem d_Sc_emit_13 : decode prog_5_method_11_code 13 = .ok (.ireturn, 1) := by decide +kernel
theorem d_Sc_emit_14 : decode prog_5_method_11_code 14 = .ok (.aload_n 0, 1) := by decide +kernel
theorem d_Sc_emit_15 : decode prog_5_method_11_code 15 = .ok (.getfield 9, 3) := by decide +kernel
theorem d_Sc_emit_18 : decode prog_5_method_11_code 18 = .ok (.aload_n 0, 1) := by decide +kernel
theorem d_Sc_emit_19 : decode prog_5_method_11_code 19 = .ok (.getfield 51, 3) := by decide +kernel
theorem d_Sc_emit_22 : decode prog_5_method_11_code 22 = .ok (.iload_n 1, 1) := by decide +kernel
theorem d_Sc_emit_23 : decode prog_5_method_11_code 23 = .ok (.iastore, 1) := by decide +kernel
theorem d_Sc_emit_24 : decode prog_5_method_11_code 24 = .ok (.aload_n 0, 1) := by decide +kernel
theorem d_Sc_emit_25 : decode prog_5_method_11_code 25 = .ok (.dup, 1) := by decide +kernel
theorem d_Sc_emit_26 : decode prog_5_method_11_code 26 = .ok (.getfield 51, 3) := by decide +kernel
theorem d_Sc_emit_29 : decode prog_5_method_11_code 29 = .ok (.iconst 1, 1) := by decide +kernel
theorem d_Sc_emit_30 : decode prog_5_method_11_code 30 = .ok (.iadd, 1) := by decide +kernel
theorem d_Sc_emit_31 : decode prog_5_method_11_code 31 = .ok (.putfield 51, 3) := by decide +kernel
theorem d_Sc_emit_34 : decode prog_5_method_11_code 34 = .ok (.iconst 1, 1) := by decide +kernel
theorem d_Sc_emit_35 : decode prog_5_method_11_code 35 = .ok (.ireturn, 1) := by decide +kernel
theorem d_TC_told_0 : decode prog_1_method_10_code 0 = .ok (.iload_n 1, 1) := by decide +kernel
theorem d_TC_told_1 : decode prog_1_method_10_code 1 = .ok (.tableswitch 96 0 5 #[39, 47, 55, 63, 74, 85], 39) := by decide +kernel
theorem d_TC_told_40 : decode prog_1_method_10_code 40 = .ok (.aload_n 0, 1) := by decide +kernel
theorem d_TC_told_41 : decode prog_1_method_10_code 41 = .ok (.getfield 24, 3) := by decide +kernel
theorem d_TC_told_44 : decode prog_1_method_10_code 44 = .ok (.getfield 154, 3) := by decide +kernel
theorem d_TC_told_47 : decode prog_1_method_10_code 47 = .ok (.ireturn, 1) := by decide +kernel
theorem d_TC_told_48 : decode prog_1_method_10_code 48 = .ok (.aload_n 0, 1) := by decide +kernel
theorem d_TC_told_49 : decode prog_1_method_10_code 49 = .ok (.getfield 24, 3) := by decide +kernel
theorem d_TC_told_52 : decode prog_1_method_10_code 52 = .ok (.getfield 157, 3) := by decide +kernel
theorem d_TC_told_55 : decode prog_1_method_10_code 55 = .ok (.ireturn, 1) := by decide +kernel
theorem d_TC_told_56 : decode prog_1_method_10_code 56 = .ok (.aload_n 0, 1) := by decide +kernel
theorem d_TC_told_57 : decode prog_1_method_10_code 57 = .ok (.getfield 24, 3) := by decide +kernel
theorem d_TC_told_60 : decode prog_1_method_10_code 60 = .ok (.getfield 160, 3) := by decide +kernel
theorem d_TC_told_63 : decode prog_1_method_10_code 63 = .ok (.ireturn, 1) := by decide +kernel
theorem d_TC_told_64 : decode prog_1_method_10_code 64 = .ok (.aload_n 0, 1) := by decide +kernel
theorem d_TC_told_65 : decode prog_1_method_10_code 65 = .ok (.getfield 24, 3) := by decide +kernel
theorem d_TC_told_68 : decode prog_1_method_10_code 68 = .ok (.getfield 150, 3) := by decide +kernel
theorem d_TC_told_71 : decode prog_1_method_10_code 71 = .ok (.getfield 163, 3) := by decide +kernel
theorem d_TC_told_74 : decode prog_1_method_10_code 74 = .ok (.ireturn, 1) := by decide +kernel
theorem d_TC_told_75 : decode prog_1_method_10_code 75 = .ok (.aload_n 0, 1) := by decide +kernel
theorem d_TC_told_76 : decode prog_1_method_10_code 76 = .ok (.getfield 24, 3) := by decide +kernel
theorem d_TC_told_79 : decode prog_1_method_10_code 79 = .ok (.getfield 150, 3) := by decide +kernel
theorem d_TC_told_82 : decode prog_1_method_10_code 82 = .ok (.getfield 166, 3) := by decide +kernel
theorem d_TC_told_85 : decode prog_1_method_10_code 85 = .ok (.ireturn, 1) := by decide +kernel
theorem d_TC_told_86 : decode prog_1_method_10_code 86 = .ok (.aload_n 0, 1) := by decide +kernel
theorem d_TC_told_87 : decode prog_1_method_10_code 87 = .ok (.getfield 24, 3) := by decide +kernel
theorem d_TC_told_90 : decode prog_1_method_10_code 90 = .ok (.getfield 150, 3) := by decide +kernel
theorem d_TC_told_93 : decode prog_1_method_10_code 93 = .ok (.getfield 169, 3) := by decide +kernel
theorem d_TC_told_96 : decode prog_1_method_10_code 96 = .ok (.ireturn, 1) := by decide +kernel
theorem d_TC_told_97 : decode prog_1_method_10_code 97 = .ok (.iload_n 1, 1) := by decide +kernel
theorem d_TC_told_98 : decode prog_1_method_10_code 98 = .ok (.bipush 10, 2) := by decide +kernel
theorem d_TC_told_100 : decode prog_1_method_10_code 100 = .ok (.if_icmp .lt 17, 3) := by decide +kernel
theorem d_TC_told_103 : decode prog_1_method_10_code 103 = .ok (.iload_n 1, 1) := by decide +kernel
theorem d_TC_told_104 : decode prog_1_method_10_code 104 = .ok (.bipush 10, 2) := by decide +kernel
theorem d_TC_told_106 : decode prog_1_method_10_code 106 = .ok (.aload_n 0, 1) := by decide +kernel
theorem d_TC_told_107 : decode prog_1_method_10_code 107 = .ok (.getfield 24, 3) := by decide +kernel
theorem d_TC_told_110 : decode prog_1_method_10_code 110 = .ok (.getfield 131, 3) := by decide +kernel
theorem d_TC_told_113 : decode prog_1_method_10_code 113 = .ok (.iadd, 1) := by decide +kernel
theorem d_TC_told_114 : decode prog_1_method_10_code 114 = .ok (.if_icmp .lt 5, 3) := by decide +kernel
theorem d_TC_told_117 : decode prog_1_method_10_code 117 = .ok (.iconst (-1), 1) := by decide +kernel
theorem d_TC_told_118 : decode prog_1_method_10_code 118 = .ok (.ireturn, 1) := by decide +kernel
theorem d_TC_told_119 : decode prog_1_method_10_code 119 = .ok (.aload_n 0, 1) := by decide +kernel
theorem d_TC_told_120 : decode prog_1_method_10_code 120 = .ok (.getfield 24, 3) := by decide +kernel
theorem d_TC_told_123 : decode prog_1_method_10_code 123 = .ok (.getfield 172, 3) := by decide +kernel
theorem d_TC_told_126 : decode prog_1_method_10_code 126 = .ok (.iload_n 1, 1) := by decide +kernel
theorem d_TC_told_127 : decode prog_1_method_10_code 127 = .ok (.bipush 10, 2) := by decide +kernel
theorem d_TC_told_129 : decode prog_1_method_10_code 129 = .ok (.isub, 1) := by decide +kernel
theorem d_TC_told_130 : decode prog_1_method_10_code 130 = .ok (.iaload, 1) := by decide +kernel
theorem d_TC_told_131 : decode prog_1_method_10_code 131 = .ok (.ireturn, 1) := by decide +kernel
theorem d_TC_up_0 : decode prog_1_method_11_code 0 = .ok (.iload_n 1, 1) := by decide +kernel
theorem d_TC_up_1 : decode prog_1_method_11_code 1 = .ok (.invokestatic 175, 3) := by decide +kernel
theorem d_TC_up_4 : decode prog_1_method_11_code 4 = .ok (.ifCond .eq 6, 3) := by decide +kernel
theorem d_TC_up_7 : decode prog_1_method_11_code 7 = .ok (.bipush (-2), 2) := by decide +kernel
theorem d_TC_up_9 : decode prog_1_method_11_code 9 = .ok (.ireturn, 1) := by decide +kernel
theorem d_TC_up_10 : decode prog_1_method_11_code 10 = .ok (.aload_n 0, 1) := by decide +kernel
theorem d_TC_up_11 : decode prog_1_method_11_code 11 = .ok (.getfield 24, 3) := by decide +kernel
theorem d_TC_up_14 : decode prog_1_method_11_code 14 = .ok (.getfield 154, 3) := by decide +kernel
theorem d_TC_up_17 : decode prog_1_method_11_code 17 = .ok (.iload_n 1, 1) := by decide +kernel
theorem d_TC_up_18 : decode prog_1_method_11_code 18 = .ok (.iadd, 1) := by decide +kernel
theorem d_TC_up_19 : decode prog_1_method_11_code 19 = .ok (.ldc 178, 2) := by decide +kernel
theorem d_TC_up_21 : decode prog_1_method_11_code 21 = .ok (.if_icmp .gt 29, 3) := by decide +kernel
theorem d_TC_up_24 : decode prog_1_method_11_code 24 = .ok (.aload_n 0, 1) := by decide +kernel
theorem d_TC_up_25 : decode prog_1_method_11_code 25 = .ok (.getfield 24, 3) := by decide +kernel
theorem d_TC_up_28 : decode prog_1_method_11_code 28 = .ok (.getfield 157, 3) := by decide +kernel
theorem d_TC_up_31 : decode prog_1_method_11_code 31 = .ok (.sipush 9999, 3) := by decide +kernel
theorem d_TC_up_34 : decode prog_1_method_11_code 34 = .ok (.if_icmp .ge 16, 3) := by decide +kernel
theorem d_TC_up_37 : decode prog_1_method_11_code 37 = .ok (.aload_n 0, 1) := by decide +kernel
theorem d_TC_up_38 : decode prog_1_method_11_code 38 = .ok (.getfield 24, 3) := by decide +kernel
theorem d_TC_up_41 : decode prog_1_method_11_code 41 = .ok (.getfield 160, 3) := by decide +kernel
theorem d_TC_up_44 : decode prog_1_method_11_code 44 = .ok (.sipush 9999, 3) := by decide +kernel
theorem d_TC_up_47 : decode prog_1_method_11_code 47 = .ok (.if_icmp .lt 6, 3) := by decide +kernel
theorem d_TC_up_50 : decode prog_1_method_11_code 50 = .ok (.bipush (-3), 2) := by decide +kernel
theorem d_TC_up_52 : decode prog_1_method_11_code 52 = .ok (.ireturn, 1) := by decide +kernel
theorem d_TC_up_53 : decode prog_1_method_11_code 53 = .ok (.aload_n 0, 1) := by decide +kernel
theorem d_TC_up_54 : decode prog_1_method_11_code 54 = .ok (.getfield 24, 3) := by decide +kernel
theorem d_TC_up_57 : decode prog_1_method_11_code 57 = .ok (.iload_n 1, 1) := by decide +kernel
theorem d_TC_up_58 : decode prog_1_method_11_code 58 = .ok (.invokevirtual 179, 3) := by decide +kernel
theorem d_TC_up_61 : decode prog_1_method_11_code 61 = .ok (.istore_n 2, 1) := by decide +kernel
theorem d_TC_up_62 : decode prog_1_method_11_code 62 = .ok (.aload_n 0, 1) := by decide +kernel
theorem d_TC_up_63 : decode prog_1_method_11_code 63 = .ok (.getfield 24, 3) := by decide +kernel
theorem d_TC_up_66 : decode prog_1_method_11_code 66 = .ok (.invokevirtual 182, 3) := by decide +kernel
theorem d_TC_up_69 : decode prog_1_method_11_code 69 = .ok (.iload_n 2, 1) := by decide +kernel
theorem d_TC_up_70 : decode prog_1_method_11_code 70 = .ok (.ireturn, 1) := by decide +kernel
theorem d_TC_isNoBeat_0 : decode prog_1_method_44_code 0 = .ok (.iload_n 0, 1) := by decide +kernel
theorem d_TC_isNoBeat_1 : decode prog_1_method_44_code 1 = .ok (.iconst 1, 1) := by decide +kernel
theorem d_TC_isNoBeat_2 : decode prog_1_method_44_code 2 = .ok (.if_icmp .lt 9, 3) := by decide +kernel
theorem d_TC_isNoBeat_5 : decode prog_1_method_44_code 5 = .ok (.iload_n 0, 1) := by decide +kernel
theorem d_TC_isNoBeat_6 : decode prog_1_method_44_code 6 = .ok (.bipush 99, 2) := by decide +kernel
theorem d_TC_isNoBeat_8 : decode prog_1_method_44_code 8 = .ok (.if_icmp .le 7, 3) := by decide +kernel
theorem d_TC_isNoBeat_11 : decode prog_1_method_44_code 11 = .ok (.iconst 1, 1) := by decide +kernel
theorem d_TC_isNoBeat_12 : decode prog_1_method_44_code 12 = .ok (.goto 4, 3) := by decide +kernel
theorem d_TC_isNoBeat_15 : decode prog_1_method_44_code 15 = .ok (.iconst 0, 1) := by decide +kernel
theorem d_TC_isNoBeat_16 : decode prog_1_method_44_code 16 = .ok (.ireturn, 1) := by decide +kernel
theorem d_Si_throwTube_0 : decode prog_6_method_13_code 0 = .ok (.aload_n 0, 1) := by decide +kernel
theorem d_Si_throwTube_1 : decode prog_6_method_13_code 1 = .ok (.getfield 53, 3) := by decide +kernel
theorem d_Si_throwTube_4 : decode prog_6_method_13_code 4 = .ok (.istore_n 2, 1) := by decide +kernel
theorem d_Si_throwTube_5 : decode prog_6_method_13_code 5 = .ok (.iload_n 2, 1) := by decide +kernel
theorem d_Si_throwTube_6 : decode prog_6_method_13_code 6 = .ok (.aload_n 0, 1) := by decide +kernel
theorem d_Si_throwTube_7 : decode prog_6_method_13_code 7 = .ok (.getfield 36, 3) := by decide +kernel
theorem d_Si_throwTube_10 : decode prog_6_method_13_code 10 = .ok (.getfield 85, 3) := by decide +kernel
theorem d_Si_throwTube_13 : decode prog_6_method_13_code 13 = .ok (.iadd, 1) := by decide +kernel
theorem d_Si_throwTube_14 : decode prog_6_method_13_code 14 = .ok (.istore_n 3, 1) := by decide +kernel
theorem d_Si_throwTube_15 : decode prog_6_method_13_code 15 = .ok (.aload_n 0, 1) := by decide +kernel
theorem d_Si_throwTube_16 : decode prog_6_method_13_code 16 = .ok (.dup, 1) := by decide +kernel
theorem d_Si_throwTube_17 : decode prog_6_method_13_code 17 = .ok (.getfield 53, 3) := by decide +kernel
theorem d_Si_throwTube_20 : decode prog_6_method_13_code 20 = .ok (.iload_n 1, 1) := by decide +kernel
theorem d_Si_throwTube_21 : decode prog_6_method_13_code 21 = .ok (.iadd, 1) := by decide +kernel
theorem d_Si_throwTube_22 : decode prog_6_method_13_code 22 = .ok (.putfield 53, 3) := by decide +kernel
theorem d_Si_throwTube_25 : decode prog_6_method_13_code 25 = .ok (.iconst 0, 1) := by decide +kernel
theorem d_Si_throwTube_26 : decode prog_6_method_13_code 26 = .ok (.istore 4, 2) := by decide +kernel
theorem d_Si_throwTube_28 : decode prog_6_method_13_code 28 = .ok (.iload 4, 2) := by decide +kernel
theorem d_Si_throwTube_30 : decode prog_6_method_13_code 30 = .ok (.aload_n 0, 1) := by decide +kernel
theorem d_Si_throwTube_31 : decode prog_6_method_13_code 31 = .ok (.getfield 50, 3) := by decide +kernel
theorem d_Si_throwTube_34 : decode prog_6_method_13_code 34 = .ok (.if_icmp .ge 143, 3) := by decide +kernel
theorem d_Si_throwTube_37 : decode prog_6_method_13_code 37 = .ok (.aload_n 0, 1) := by decide +kernel
theorem d_Si_throwTube_38 : decode prog_6_method_13_code 38 = .ok (.getfield 27, 3) := by decide +kernel
theorem d_Si_throwTube_41 : decode prog_6_method_13_code 41 = .ok (.iload 4, 2) := by decide +kernel
theorem d_Si_throwTube_43 : decode prog_6_method_13_code 43 = .ok (.iaload, 1) := by decide +kernel
theorem d_Si_throwTube_44 : decode prog_6_method_13_code 44 = .ok (.istore 5, 2) := by decide +kernel
theorem d_Si_throwTube_46 : decode prog_6_method_13_code 46 = .ok (.iload_n 3, 1) := by decide +kernel
theorem d_Si_throwTube_47 : decode prog_6_method_13_code 47 = .ok (.aload_n 0, 1) := by decide +kernel
theorem d_Si_throwTube_48 : decode prog_6_method_13_code 48 = .ok (.getfield 21, 3) := by decide +kernel
theorem d_Si_throwTube_51 : decode prog_6_method_13_code 51 = .ok (.iload 5, 2) := by decide +kernel
theorem d_Si_throwTube_53 : decode prog_6_method_13_code 53 = .ok (.iaload, 1) := by decide +kernel
theorem d_Si_throwTube_54 : decode prog_6_method_13_code 54 = .ok (.if_icmp .ge 19, 3) := by decide +kernel
theorem d_Si_throwTube_57 : decode prog_6_method_13_code 57 = .ok (.aload_n 0, 1) := by decide +kernel
theorem d_Si_throwTube_58 : decode prog_6_method_13_code 58 = .ok (.dup, 1) := by decide +kernel
theorem d_Si_throwTube_59 : decode prog_6_method_13_code 59 = .ok (.getfield 59, 3) := by decide +kernel
theorem d_Si_throwTube_62 : decode prog_6_method_13_code 62 = .ok (.iconst 1, 1) := by decide +kernel
theorem d_Si_throwTube_63 : decode prog_6_method_13_code 63 = .ok (.iadd, 1) := by decide +kernel
theorem d_Si_throwTube_64 : decode prog_6_method_13_code 64 = .ok (.putfield 59, 3) := by decide +kernel
theorem d_Si_throwTube_67 : decode prog_6_method_13_code 67 = .ok (.bipush (-10), 2) := by decide +kernel
theorem d_Si_throwTube_69 : decode prog_6_method_13_code 69 = .ok (.iload 5, 2) := by decide +kernel
theorem d_Si_throwTube_71 : decode prog_6_method_13_code 71 = .ok (.isub, 1) := by decide +kernel
theorem d_Si_throwTube_72 : decode prog_6_method_13_code 72 = .ok (.ireturn, 1) := by decide +kernel
theorem d_Si_throwTube_73 : decode prog_6_method_13_code 73 = .ok (.aload_n 0, 1) := by decide +kernel
theorem d_Si_throwTube_74 : decode prog_6_method_13_code 74 = .ok (.getfield 11, 3) := by decide +kernel
theorem d_Si_throwTube_77 : decode prog_6_method_13_code 77 = .ok (.iload 5, 2) := by decide +kernel
theorem d_Si_throwTube_79 : decode prog_6_method_13_code 79 = .ok (.aaload, 1) := by decide +kernel
theorem d_Si_throwTube_80 : decode prog_6_method_13_code 80 = .ok (.aload_n 0, 1) := by decide +kernel
theorem d_Si_throwTube_81 : decode prog_6_method_13_code 81 = .ok (.getfield 17, 3) := by decide +kernel
theorem d_Si_throwTube_84 : decode prog_6_method_13_code 84 = .ok (.iload 5, 2) := by decide +kernel
theorem d_Si_throwTube_86 : decode prog_6_method_13_code 86 = .ok (.iaload, 1) := by decide +kernel
theorem d_Si_throwTube_87 : decode prog_6_method_13_code 87 = .ok (.invokevirtual 88, 3) := by decide +kernel
theorem d_Si_throwTube_90 : decode prog_6_method_13_code 90 = .ok (.ifCond .eq 30, 3) := by decide +kernel
theorem d_Si_throwTube_93 : decode prog_6_method_13_code 93 = .ok (.aload_n 0, 1) := by decide +kernel
theorem d_Si_throwTube_94 : decode prog_6_method_13_code 94 = .ok (.getfield 17, 3) := by decide +kernel
theorem d_Si_throwTube_97 : decode prog_6_method_13_code 97 = .ok (.iload 5, 2) := by decide +kernel
theorem d_Si_throwTube_99 : decode prog_6_method_13_code 99 = .ok (.dup2, 1) := by decide +kernel
theorem d_Si_throwTube_100 : decode prog_6_method_13_code 100 = .ok (.iaload, 1) := by decide +kernel
theorem d_Si_throwTube_101 : decode prog_6_method_13_code 101 = .ok (.iconst 1, 1) := by decide +kernel
theorem d_Si_throwTube_102 : decode prog_6_method_13_code 102 = .ok (.iadd, 1) := by decide +kernel
theorem d_Si_throwTube_103 : decode prog_6_method_13_code 103 = .ok (.iastore, 1) := by decide +kernel
theorem d_Si_throwTube_104 : decode prog_6_method_13_code 104 = .ok (.aload_n 0, 1) := by decide +kernel
theorem d_Si_throwTube_105 : decode prog_6_method_13_code 105 = .ok (.dup, 1) := by decide +kernel
theorem d_Si_throwTube_106 : decode prog_6_method_13_code 106 = .ok (.getfield 59, 3) := by decide +kernel
theorem d_Si_throwTube_109 : decode prog_6_method_13_code 109 = .ok (.iconst 1, 1) := by decide +kernel
theorem d_Si_throwTube_110 : decode prog_6_method_13_code 110 = .ok (.iadd, 1) := by decide +kernel
theorem d_Si_throwTube_111 : decode prog_6_method_13_code 111 = .ok (.putfield 59, 3) := by decide +kernel
theorem d_Si_throwTube_114 : decode prog_6_method_13_code 114 = .ok (.bipush (-10), 2) := by decide +kernel
theorem d_Si_throwTube_116 : decode prog_6_method_13_code 116 = .ok (.iload 5, 2) := by decide +kernel
theorem d_Si_throwTube_118 : decode prog_6_method_13_code 118 = .ok (.isub, 1) := by decide +kernel
theorem d_Si_throwTube_119 : decode prog_6_method_13_code 119 = .ok (.ireturn, 1) := by decide +kernel
theorem d_Si_throwTube_120 : decode prog_6_method_13_code 120 = .ok (.aload_n 0, 1) := by decide +kernel
theorem d_Si_throwTube_121 : decode prog_6_method_13_code 121 = .ok (.iload 4, 2) := by decide +kernel
theorem d_Si_throwTube_123 : decode prog_6_method_13_code 123 = .ok (.invokevirtual 92, 3) := by decide +kernel
theorem d_Si_throwTube_126 : decode prog_6_method_13_code 126 = .ok (.istore 6, 2) := by decide +kernel
theorem d_Si_throwTube_128 : decode prog_6_method_13_code 128 = .ok (.aload_n 0, 1) := by decide +kernel
theorem d_Si_throwTube_129 : decode prog_6_method_13_code 129 = .ok (.getfield 17, 3) := by decide +kernel
theorem d_Si_throwTube_132 : decode prog_6_method_13_code 132 = .ok (.iload 5, 2) := by decide +kernel
theorem d_Si_throwTube_134 : decode prog_6_method_13_code 134 = .ok (.dup2, 1) := by decide +kernel
theorem d_Si_throwTube_135 : decode prog_6_method_13_code 135 = .ok (.iaload, 1) := by decide +kernel
theorem d_Si_throwTube_136 : decode prog_6_method_13_code 136 = .ok (.iconst 1, 1) := by decide +kernel
theorem d_Si_throwTube_137 : decode prog_6_method_13_code 137 = .ok (.iadd, 1) := by decide +kernel
theorem d_Si_throwTube_138 : decode prog_6_method_13_code 138 = .ok (.iastore, 1) := by decide +kernel
theorem d_Si_throwTube_139 : decode prog_6_method_13_code 139 = .ok (.aload_n 0, 1) := by decide +kernel
theorem d_Si_throwTube_140 : decode prog_6_method_13_code 140 = .ok (.getfield 21, 3) := by decide +kernel
theorem d_Si_throwTube_143 : decode prog_6_method_13_code 143 = .ok (.iload 5, 2) := by decide +kernel
theorem d_Si_throwTube_145 : decode prog_6_method_13_code 145 = .ok (.iload_n 3, 1) := by decide +kernel
theorem d_Si_throwTube_146 : decode prog_6_method_13_code 146 = .ok (.iload 6, 2) := by decide +kernel
theorem d_Si_throwTube_148 : decode prog_6_method_13_code 148 = .ok (.iadd, 1) := by decide +kernel
theorem d_Si_throwTube_149 : decode prog_6_method_13_code 149 = .ok (.aload_n 0, 1) := by decide +kernel
theorem d_Si_throwTube_150 : decode prog_6_method_13_code 150 = .ok (.getfield 36, 3) := by decide +kernel
theorem d_Si_throwTube_153 : decode prog_6_method_13_code 153 = .ok (.getfield 96, 3) := by decide +kernel
theorem d_Si_throwTube_156 : decode prog_6_method_13_code 156 = .ok (.iadd, 1) := by decide +kernel
theorem d_Si_throwTube_157 : decode prog_6_method_13_code 157 = .ok (.iastore, 1) := by decide +kernel
theorem d_Si_throwTube_158 : decode prog_6_method_13_code 158 = .ok (.iload_n 3, 1) := by decide +kernel
theorem d_Si_throwTube_159 : decode prog_6_method_13_code 159 = .ok (.iload 6, 2) := by decide +kernel
theorem d_Si_throwTube_161 : decode prog_6_method_13_code 161 = .ok (.aload_n 0, 1) := by decide +kernel
theorem d_Si_throwTube_162 : decode prog_6_method_13_code 162 = .ok (.getfield 36, 3) := by decide +kernel
theorem d_Si_throwTube_165 : decode prog_6_method_13_code 165 = .ok (.getfield 85, 3) := by decide +kernel
theorem d_Si_throwTube_168 : decode prog_6_method_13_code 168 = .ok (.iadd, 1) := by decide +kernel
theorem d_Si_throwTube_169 : decode prog_6_method_13_code 169 = .ok (.iadd, 1) := by decide +kernel
theorem d_Si_throwTube_170 : decode prog_6_method_13_code 170 = .ok (.istore_n 3, 1) := by decide +kernel
theorem d_Si_throwTube_171 : decode prog_6_method_13_code 171 = .ok (.iinc 4 1, 3) := by decide +kernel
theorem d_Si_throwTube_174 : decode prog_6_method_13_code 174 = .ok (.goto (-146), 3) := by decide +kernel
theorem d_Si_throwTube_177 : decode prog_6_method_13_code 177 = .ok (.aload_n 0, 1) := by decide +kernel
theorem d_Si_throwTube_178 : decode prog_6_method_13_code 178 = .ok (.dup, 1) := by decide +kernel
theorem d_Si_throwTube_179 : decode prog_6_method_13_code 179 = .ok (.getfield 56, 3) := by decide +kernel
theorem d_Si_throwTube_182 : decode prog_6_method_13_code 182 = .ok (.iconst 1, 1) := by decide +kernel
theorem d_Si_throwTube_183 : decode prog_6_method_13_code 183 = .ok (.iadd, 1) := by decide +kernel
theorem d_Si_throwTube_184 : decode prog_6_method_13_code 184 = .ok (.putfield 56, 3) := by decide +kernel
theorem d_Si_throwTube_187 : decode prog_6_method_13_code 187 = .ok (.iload_n 3, 1) := by decide +kernel
theorem d_Si_throwTube_188 : decode prog_6_method_13_code 188 = .ok (.iload_n 2, 1) := by decide +kernel
theorem d_Si_throwTube_189 : decode prog_6_method_13_code 189 = .ok (.isub, 1) := by decide +kernel
theorem d_Si_throwTube_190 : decode prog_6_method_13_code 190 = .ok (.ireturn, 1) := by decide +kernel
theorem d_Sl_slips_0 : decode prog_7_method_3_code 0 = .ok (.iload_n 1, 1) := by decide +kernel
theorem d_Sl_slips_1 : decode prog_7_method_3_code 1 = .ok (.iconst 1, 1) := by decide +kernel
theorem d_Sl_slips_2 : decode prog_7_method_3_code 2 = .ok (.iadd, 1) := by decide +kernel
theorem d_Sl_slips_3 : decode prog_7_method_3_code 3 = .ok (.aload_n 0, 1) := by decide +kernel
theorem d_Sl_slips_4 : decode prog_7_method_3_code 4 = .ok (.getfield 7, 3) := by decide +kernel
theorem d_Sl_slips_7 : decode prog_7_method_3_code 7 = .ok (.iconst 2, 1) := by decide +kernel
theorem d_Sl_slips_8 : decode prog_7_method_3_code 8 = .ok (.iadd, 1) := by decide +kernel
theorem d_Sl_slips_9 : decode prog_7_method_3_code 9 = .ok (.irem, 1) := by decide +kernel
theorem d_Sl_slips_10 : decode prog_7_method_3_code 10 = .ok (.ifCond .ne 7, 3) := by decide +kernel
theorem d_Sl_slips_13 : decode prog_7_method_3_code 13 = .ok (.iconst 1, 1) := by decide +kernel
theorem d_Sl_slips_14 : decode prog_7_method_3_code 14 = .ok (.goto 4, 3) := by decide +kernel
theorem d_Sl_slips_17 : decode prog_7_method_3_code 17 = .ok (.iconst 0, 1) := by decide +kernel
theorem d_Sl_slips_18 : decode prog_7_method_3_code 18 = .ok (.ireturn, 1) := by decide +kernel
theorem d_Ma_slips_0 : decode prog_4_method_4_code 0 = .ok (.iconst 0, 1) := by decide +kernel
theorem d_Ma_slips_1 : decode prog_4_method_4_code 1 = .ok (.ireturn, 1) := by decide +kernel
theorem d_Si_capHeld_0 : decode prog_6_method_14_code 0 = .ok (.iconst 0, 1) := by decide +kernel
theorem d_Si_capHeld_1 : decode prog_6_method_14_code 1 = .ok (.istore_n 1, 1) := by decide +kernel
theorem d_Si_capHeld_2 : decode prog_6_method_14_code 2 = .ok (.iload_n 1, 1) := by decide +kernel
theorem d_Si_capHeld_3 : decode prog_6_method_14_code 3 = .ok (.bipush 6, 2) := by decide +kernel
theorem d_Si_capHeld_5 : decode prog_6_method_14_code 5 = .ok (.if_icmp .ge 27, 3) := by decide +kernel
theorem d_Si_capHeld_8 : decode prog_6_method_14_code 8 = .ok (.aload_n 0, 1) := by decide +kernel
theorem d_Si_capHeld_9 : decode prog_6_method_14_code 9 = .ok (.getfield 17, 3) := by decide +kernel
theorem d_Si_capHeld_12 : decode prog_6_method_14_code 12 = .ok (.iload_n 1, 1) := by decide +kernel
theorem d_Si_capHeld_13 : decode prog_6_method_14_code 13 = .ok (.aload_n 0, 1) := by decide +kernel
theorem d_Si_capHeld_14 : decode prog_6_method_14_code 14 = .ok (.getfield 17, 3) := by decide +kernel
theorem d_Si_capHeld_17 : decode prog_6_method_14_code 17 = .ok (.iload_n 1, 1) := by decide +kernel
theorem d_Si_capHeld_18 : decode prog_6_method_14_code 18 = .ok (.iaload, 1) := by decide +kernel
theorem d_Si_capHeld_19 : decode prog_6_method_14_code 19 = .ok (.sipush 9999, 3) := by decide +kernel
theorem d_Si_capHeld_22 : decode prog_6_method_14_code 22 = .ok (.invokestatic 99, 3) := by decide +kernel
theorem d_Si_capHeld_25 : decode prog_6_method_14_code 25 = .ok (.iastore, 1) := by decide +kernel
theorem d_Si_capHeld_26 : decode prog_6_method_14_code 26 = .ok (.iinc 1 1, 3) := by decide +kernel
theorem d_Si_capHeld_29 : decode prog_6_method_14_code 29 = .ok (.goto (-27), 3) := by decide +kernel
theorem d_Si_capHeld_32 : decode prog_6_method_14_code 32 = .ok (.return_, 1) := by decide +kernel
theorem d_TC_pause_0 : decode prog_1_method_12_code 0 = .ok (.iload_n 1, 1) := by decide +kernel
theorem d_TC_pause_1 : decode prog_1_method_12_code 1 = .ok (.ifCond .lt 10, 3) := by decide +kernel
theorem d_TC_pause_4 : decode prog_1_method_12_code 4 = .ok (.iload_n 1, 1) := by decide +kernel
theorem d_TC_pause_5 : decode prog_1_method_12_code 5 = .ok (.sipush 9999, 3) := by decide +kernel
theorem d_TC_pause_8 : decode prog_1_method_12_code 8 = .ok (.if_icmp .le 6, 3) := by decide +kernel
theorem d_TC_pause_11 : decode prog_1_method_12_code 11 = .ok (.bipush (-2), 2) := by decide +kernel
theorem d_TC_pause_13 : decode prog_1_method_12_code 13 = .ok (.ireturn, 1) := by decide +kernel
theorem d_TC_pause_14 : decode prog_1_method_12_code 14 = .ok (.aload_n 0, 1) := by decide +kernel
theorem d_TC_pause_15 : decode prog_1_method_12_code 15 = .ok (.getfield 24, 3) := by decide +kernel
theorem d_TC_pause_18 : decode prog_1_method_12_code 18 = .ok (.getfield 154, 3) := by decide +kernel
theorem d_TC_pause_21 : decode prog_1_method_12_code 21 = .ok (.iload_n 1, 1) := by decide +kernel
theorem d_TC_pause_22 : decode prog_1_method_12_code 22 = .ok (.iadd, 1) := by decide +kernel
theorem d_TC_pause_23 : decode prog_1_method_12_code 23 = .ok (.ldc 178, 2) := by decide +kernel
theorem d_TC_pause_25 : decode prog_1_method_12_code 25 = .ok (.if_icmp .le 6, 3) := by decide +kernel
theorem d_TC_pause_28 : decode prog_1_method_12_code 28 = .ok (.bipush (-3), 2) := by decide +kernel
theorem d_TC_pause_30 : decode prog_1_method_12_code 30 = .ok (.ireturn, 1) := by decide +kernel
theorem d_TC_pause_31 : decode prog_1_method_12_code 31 = .ok (.aload_n 0, 1) := by decide +kernel
theorem d_TC_pause_32 : decode prog_1_method_12_code 32 = .ok (.getfield 24, 3) := by decide +kernel
theorem d_TC_pause_35 : decode prog_1_method_12_code 35 = .ok (.dup, 1) := by decide +kernel
theorem d_TC_pause_36 : decode prog_1_method_12_code 36 = .ok (.getfield 154, 3) := by decide +kernel
theorem d_TC_pause_39 : decode prog_1_method_12_code 39 = .ok (.iload_n 1, 1) := by decide +kernel
theorem d_TC_pause_40 : decode prog_1_method_12_code 40 = .ok (.iadd, 1) := by decide +kernel
theorem d_TC_pause_41 : decode prog_1_method_12_code 41 = .ok (.putfield 154, 3) := by decide +kernel
theorem d_TC_pause_44 : decode prog_1_method_12_code 44 = .ok (.aload_n 0, 1) := by decide +kernel
theorem d_TC_pause_45 : decode prog_1_method_12_code 45 = .ok (.getfield 24, 3) := by decide +kernel
theorem d_TC_pause_48 : decode prog_1_method_12_code 48 = .ok (.getfield 154, 3) := by decide +kernel
theorem d_TC_pause_51 : decode prog_1_method_12_code 51 = .ok (.ireturn, 1) := by decide +kernel
theorem d_TC_on_0 : decode prog_1_method_13_code 0 = .ok (.iload_n 3, 1) := by decide +kernel
theorem d_TC_on_1 : decode prog_1_method_13_code 1 = .ok (.ifCond .lt 8, 3) := by decide +kernel
theorem d_TC_on_4 : decode prog_1_method_13_code 4 = .ok (.iload_n 3, 1) := by decide +kernel
theorem d_TC_on_5 : decode prog_1_method_13_code 5 = .ok (.iconst 3, 1) := by decide +kernel
theorem d_TC_on_6 : decode prog_1_method_13_code 6 = .ok (.if_icmp .le 5, 3) := by decide +kernel
theorem d_TC_on_9 : decode prog_1_method_13_code 9 = .ok (.iconst (-1), 1) := by decide +kernel
theorem d_TC_on_10 : decode prog_1_method_13_code 10 = .ok (.ireturn, 1) := by decide +kernel
theorem d_TC_on_11 : decode prog_1_method_13_code 11 = .ok (.iload_n 1, 1) := by decide +kernel
theorem d_TC_on_12 : decode prog_1_method_13_code 12 = .ok (.ifCond .lt 16, 3) := by decide +kernel
theorem d_TC_on_15 : decode prog_1_method_13_code 15 = .ok (.iload_n 1, 1) := by decide +kernel
theorem d_TC_on_16 : decode prog_1_method_13_code 16 = .ok (.bipush 30, 2) := by decide +kernel
theorem d_TC_on_18 : decode prog_1_method_13_code 18 = .ok (.if_icmp .gt 10, 3) := by decide +kernel
theorem d_TC_on_21 : decode prog_1_method_13_code 21 = .ok (.iload_n 2, 1) := by decide +kernel
theorem d_TC_on_22 : decode prog_1_method_13_code 22 = .ok (.invokestatic 175, 3) := by decide +kernel
theorem d_TC_on_25 : decode prog_1_method_13_code 25 = .ok (.ifCond .eq 6, 3) := by decide +kernel
theorem d_TC_on_28 : decode prog_1_method_13_code 28 = .ok (.bipush (-2), 2) := by decide +kernel
theorem d_TC_on_30 : decode prog_1_method_13_code 30 = .ok (.ireturn, 1) := by decide +kernel
theorem d_TC_on_31 : decode prog_1_method_13_code 31 = .ok (.aload_n 0, 1) := by decide +kernel
theorem d_TC_on_32 : decode prog_1_method_13_code 32 = .ok (.getfield 38, 3) := by decide +kernel
theorem d_TC_on_35 : decode prog_1_method_13_code 35 = .ok (.aload_n 0, 1) := by decide +kernel
theorem d_TC_on_36 : decode prog_1_method_13_code 36 = .ok (.getfield 24, 3) := by decide +kernel
theorem d_TC_on_39 : decode prog_1_method_13_code 39 = .ok (.invokevirtual 185, 3) := by decide +kernel
theorem d_TC_on_42 : decode prog_1_method_13_code 42 = .ok (.aload_n 0, 1) := by decide +kernel
theorem d_TC_on_43 : decode prog_1_method_13_code 43 = .ok (.getfield 38, 3) := by decide +kernel
theorem d_TC_on_46 : decode prog_1_method_13_code 46 = .ok (.iload_n 1, 1) := by decide +kernel
theorem d_TC_on_47 : decode prog_1_method_13_code 47 = .ok (.iload_n 2, 1) := by decide +kernel
theorem d_TC_on_48 : decode prog_1_method_13_code 48 = .ok (.invokevirtual 189, 3) := by decide +kernel
theorem d_TC_on_51 : decode prog_1_method_13_code 51 = .ok (.iload_n 3, 1) := by decide +kernel
theorem d_TC_on_52 : decode prog_1_method_13_code 52 = .ok (.ifCond .ne 11, 3) := by decide +kernel
theorem d_TC_on_55 : decode prog_1_method_13_code 55 = .ok (.aload_n 0, 1) := by decide +kernel
theorem d_TC_on_56 : decode prog_1_method_13_code 56 = .ok (.getfield 38, 3) := by decide +kernel
theorem d_TC_on_59 : decode prog_1_method_13_code 59 = .ok (.getfield 192, 3) := by decide +kernel
theorem d_TC_on_62 : decode prog_1_method_13_code 62 = .ok (.ireturn, 1) := by decide +kernel
theorem d_TC_on_63 : decode prog_1_method_13_code 63 = .ok (.iload_n 3, 1) := by decide +kernel
theorem d_TC_on_64 : decode prog_1_method_13_code 64 = .ok (.iconst 1, 1) := by decide +kernel
theorem d_TC_on_65 : decode prog_1_method_13_code 65 = .ok (.if_icmp .ne 11, 3) := by decide +kernel
theorem d_TC_on_68 : decode prog_1_method_13_code 68 = .ok (.aload_n 0, 1) := by decide +kernel
theorem d_TC_on_69 : decode prog_1_method_13_code 69 = .ok (.getfield 38, 3) := by decide +kernel
theorem d_TC_on_72 : decode prog_1_method_13_code 72 = .ok (.getfield 193, 3) := by decide +kernel
theorem d_TC_on_75 : decode prog_1_method_13_code 75 = .ok (.ireturn, 1) := by decide +kernel
theorem d_TC_on_76 : decode prog_1_method_13_code 76 = .ok (.aload_n 0, 1) := by decide +kernel
theorem d_TC_on_77 : decode prog_1_method_13_code 77 = .ok (.getfield 38, 3) := by decide +kernel
theorem d_TC_on_80 : decode prog_1_method_13_code 80 = .ok (.invokevirtual 196, 3) := by decide +kernel
theorem d_TC_on_83 : decode prog_1_method_13_code 83 = .ok (.istore 4, 2) := by decide +kernel
theorem d_TC_on_85 : decode prog_1_method_13_code 85 = .ok (.iload_n 3, 1) := by decide +kernel
theorem d_TC_on_86 : decode prog_1_method_13_code 86 = .ok (.iconst 2, 1) := by decide +kernel
theorem d_TC_on_87 : decode prog_1_method_13_code 87 = .ok (.if_icmp .ne 6, 3) := by decide +kernel
theorem d_TC_on_90 : decode prog_1_method_13_code 90 = .ok (.iload 4, 2) := by decide +kernel
theorem d_TC_on_92 : decode prog_1_method_13_code 92 = .ok (.ireturn, 1) := by decide +kernel
theorem d_TC_on_93 : decode prog_1_method_13_code 93 = .ok (.iload 4, 2) := by decide +kernel
theorem d_TC_on_95 : decode prog_1_method_13_code 95 = .ok (.ifCond .ge 7, 3) := by decide +kernel
theorem d_TC_on_98 : decode prog_1_method_13_code 98 = .ok (.iconst 0, 1) := by decide +kernel
theorem d_TC_on_99 : decode prog_1_method_13_code 99 = .ok (.goto 13, 3) := by decide +kernel
theorem d_TC_on_102 : decode prog_1_method_13_code 102 = .ok (.aload_n 0, 1) := by decide +kernel
theorem d_TC_on_103 : decode prog_1_method_13_code 103 = .ok (.getfield 38, 3) := by decide +kernel
theorem d_TC_on_106 : decode prog_1_method_13_code 106 = .ok (.getfield 199, 3) := by decide +kernel
theorem d_TC_on_109 : decode prog_1_method_13_code 109 = .ok (.iload 4, 2) := by decide +kernel
theorem d_TC_on_111 : decode prog_1_method_13_code 111 = .ok (.iaload, 1) := by decide +kernel
theorem d_TC_on_112 : decode prog_1_method_13_code 112 = .ok (.ireturn, 1) := by decide +kernel
theorem d_Tr_startFrom_0 : decode prog_12_method_2_code 0 = .ok (.aload_n 0, 1) := by decide +kernel
theorem d_Tr_startFrom_1 : decode prog_12_method_2_code 1 = .ok (.getfield 15, 3) := by decide +kernel
theorem d_Tr_startFrom_4 : decode prog_12_method_2_code 4 = .ok (.aload_n 1, 1) := by decide +kernel
theorem d_Tr_startFrom_5 : decode prog_12_method_2_code 5 = .ok (.invokevirtual 22, 3) := by decide +kernel
theorem d_Tr_startFrom_8 : decode prog_12_method_2_code 8 = .ok (.return_, 1) := by decide +kernel
theorem d_Si_copyChain_0 : decode prog_6_method_2_code 0 = .ok (.aload_n 1, 1) := by decide +kernel
theorem d_Si_copyChain_1 : decode prog_6_method_2_code 1 = .ok (.getfield 11, 3) := by decide +kernel
theorem d_Si_copyChain_4 : decode prog_6_method_2_code 4 = .ok (.iconst 0, 1) := by decide +kernel
theorem d_Si_copyChain_5 : decode prog_6_method_2_code 5 = .ok (.aload_n 0, 1) := by decide +kernel
theorem d_Si_copyChain_6 : decode prog_6_method_2_code 6 = .ok (.getfield 11, 3) := by decide +kernel
theorem d_Si_copyChain_9 : decode prog_6_method_2_code 9 = .ok (.iconst 0, 1) := by decide +kernel
theorem d_Si_copyChain_10 : decode prog_6_method_2_code 10 = .ok (.bipush 6, 2) := by decide +kernel
theorem d_Si_copyChain_12 : decode prog_6_method_2_code 12 = .ok (.invokestatic 40, 3) := by decide +kernel
theorem d_Si_copyChain_15 : decode prog_6_method_2_code 15 = .ok (.aload_n 1, 1) := by decide +kernel
theorem d_Si_copyChain_16 : decode prog_6_method_2_code 16 = .ok (.getfield 17, 3) := by decide +kernel
theorem d_Si_copyChain_19 : decode prog_6_method_2_code 19 = .ok (.iconst 0, 1) := by decide +kernel
theorem d_Si_copyChain_20 : decode prog_6_method_2_code 20 = .ok (.aload_n 0, 1) := by decide +kernel
theorem d_Si_copyChain_21 : decode prog_6_method_2_code 21 = .ok (.getfield 17, 3) := by decide +kernel
theorem d_Si_copyChain_24 : decode prog_6_method_2_code 24 = .ok (.iconst 0, 1) := by decide +kernel
theorem d_Si_copyChain_25 : decode prog_6_method_2_code 25 = .ok (.bipush 6, 2) := by decide +kernel
theorem d_Si_copyChain_27 : decode prog_6_method_2_code 27 = .ok (.invokestatic 40, 3) := by decide +kernel
theorem d_Si_copyChain_30 : decode prog_6_method_2_code 30 = .ok (.aload_n 1, 1) := by decide +kernel
theorem d_Si_copyChain_31 : decode prog_6_method_2_code 31 = .ok (.getfield 21, 3) := by decide +kernel
theorem d_Si_copyChain_34 : decode prog_6_method_2_code 34 = .ok (.iconst 0, 1) := by decide +kernel
theorem d_Si_copyChain_35 : decode prog_6_method_2_code 35 = .ok (.aload_n 0, 1) := by decide +kernel
theorem d_Si_copyChain_36 : decode prog_6_method_2_code 36 = .ok (.getfield 21, 3) := by decide +kernel
theorem d_Si_copyChain_39 : decode prog_6_method_2_code 39 = .ok (.iconst 0, 1) := by decide +kernel
theorem d_Si_copyChain_40 : decode prog_6_method_2_code 40 = .ok (.bipush 6, 2) := by decide +kernel
theorem d_Si_copyChain_42 : decode prog_6_method_2_code 42 = .ok (.invokestatic 40, 3) := by decide +kernel
theorem d_Si_copyChain_45 : decode prog_6_method_2_code 45 = .ok (.aload_n 1, 1) := by decide +kernel
theorem d_Si_copyChain_46 : decode prog_6_method_2_code 46 = .ok (.getfield 24, 3) := by decide +kernel
theorem d_Si_copyChain_49 : decode prog_6_method_2_code 49 = .ok (.iconst 0, 1) := by decide +kernel
theorem d_Si_copyChain_50 : decode prog_6_method_2_code 50 = .ok (.aload_n 0, 1) := by decide +kernel
theorem d_Si_copyChain_51 : decode prog_6_method_2_code 51 = .ok (.getfield 24, 3) := by decide +kernel
theorem d_Si_copyChain_54 : decode prog_6_method_2_code 54 = .ok (.iconst 0, 1) := by decide +kernel
theorem d_Si_copyChain_55 : decode prog_6_method_2_code 55 = .ok (.bipush 24, 2) := by decide +kernel
theorem d_Si_copyChain_57 : decode prog_6_method_2_code 57 = .ok (.invokestatic 40, 3) := by decide +kernel
theorem d_Si_copyChain_60 : decode prog_6_method_2_code 60 = .ok (.aload_n 1, 1) := by decide +kernel
theorem d_Si_copyChain_61 : decode prog_6_method_2_code 61 = .ok (.getfield 27, 3) := by decide +kernel
theorem d_Si_copyChain_64 : decode prog_6_method_2_code 64 = .ok (.iconst 0, 1) := by decide +kernel
theorem d_Si_copyChain_65 : decode prog_6_method_2_code 65 = .ok (.aload_n 0, 1) := by decide +kernel
theorem d_Si_copyChain_66 : decode prog_6_method_2_code 66 = .ok (.getfield 27, 3) := by decide +kernel
theorem d_Si_copyChain_69 : decode prog_6_method_2_code 69 = .ok (.iconst 0, 1) := by decide +kernel
theorem d_Si_copyChain_70 : decode prog_6_method_2_code 70 = .ok (.bipush 6, 2) := by decide +kernel
theorem d_Si_copyChain_72 : decode prog_6_method_2_code 72 = .ok (.invokestatic 40, 3) := by decide +kernel
theorem d_Si_copyChain_75 : decode prog_6_method_2_code 75 = .ok (.aload_n 0, 1) := by decide +kernel
theorem d_Si_copyChain_76 : decode prog_6_method_2_code 76 = .ok (.aload_n 1, 1) := by decide +kernel
theorem d_Si_copyChain_77 : decode prog_6_method_2_code 77 = .ok (.getfield 46, 3) := by decide +kernel
theorem d_Si_copyChain_80 : decode prog_6_method_2_code 80 = .ok (.putfield 46, 3) := by decide +kernel
theorem d_Si_copyChain_83 : decode prog_6_method_2_code 83 = .ok (.aload_n 0, 1) := by decide +kernel
theorem d_Si_copyChain_84 : decode prog_6_method_2_code 84 = .ok (.aload_n 1, 1) := by decide +kernel
theorem d_Si_copyChain_85 : decode prog_6_method_2_code 85 = .ok (.getfield 50, 3) := by decide +kernel
theorem d_Si_copyChain_88 : decode prog_6_method_2_code 88 = .ok (.putfield 50, 3) := by decide +kernel
theorem d_Si_copyChain_91 : decode prog_6_method_2_code 91 = .ok (.aload_n 0, 1) := by decide +kernel
theorem d_Si_copyChain_92 : decode prog_6_method_2_code 92 = .ok (.aload_n 1, 1) := by decide +kernel
theorem d_Si_copyChain_93 : decode prog_6_method_2_code 93 = .ok (.getfield 53, 3) := by decide +kernel
theorem d_Si_copyChain_96 : decode prog_6_method_2_code 96 = .ok (.putfield 53, 3) := by decide +kernel
theorem d_Si_copyChain_99 : decode prog_6_method_2_code 99 = .ok (.aload_n 0, 1) := by decide +kernel
theorem d_Si_copyChain_100 : decode prog_6_method_2_code 100 = .ok (.aload_n 1, 1) := by decide +kernel
theorem d_Si_copyChain_101 : decode prog_6_method_2_code 101 = .ok (.getfield 56, 3) := by decide +kernel
theorem d_Si_copyChain_104 : decode prog_6_method_2_code 104 = .ok (.putfield 56, 3) := by decide +kernel
theorem d_Si_copyChain_107 : decode prog_6_method_2_code 107 = .ok (.aload_n 0, 1) := by decide +kernel
theorem d_Si_copyChain_108 : decode prog_6_method_2_code 108 = .ok (.aload_n 1, 1) := by decide +kernel
theorem d_Si_copyChain_109 : decode prog_6_method_2_code 109 = .ok (.getfield 59, 3) := by decide +kernel
theorem d_Si_copyChain_112 : decode prog_6_method_2_code 112 = .ok (.putfield 59, 3) := by decide +kernel
theorem d_Si_copyChain_115 : decode prog_6_method_2_code 115 = .ok (.aload_n 0, 1) := by decide +kernel
theorem d_Si_copyChain_116 : decode prog_6_method_2_code 116 = .ok (.aload_n 1, 1) := by decide +kernel
theorem d_Si_copyChain_117 : decode prog_6_method_2_code 117 = .ok (.getfield 36, 3) := by decide +kernel
theorem d_Si_copyChain_120 : decode prog_6_method_2_code 120 = .ok (.putfield 36, 3) := by decide +kernel
theorem d_Si_copyChain_123 : decode prog_6_method_2_code 123 = .ok (.return_, 1) := by decide +kernel
theorem d_Tr_throwTubes_0 : decode prog_12_method_3_code 0 = .ok (.aload_n 0, 1) := by decide +kernel
theorem d_Tr_throwTubes_1 : decode prog_12_method_3_code 1 = .ok (.getfield 19, 3) := by decide +kernel
theorem d_Tr_throwTubes_4 : decode prog_12_method_3_code 4 = .ok (.aload_n 0, 1) := by decide +kernel
theorem d_Tr_throwTubes_5 : decode prog_12_method_3_code 5 = .ok (.getfield 15, 3) := by decide +kernel
theorem d_Tr_throwTubes_8 : decode prog_12_method_3_code 8 = .ok (.invokevirtual 22, 3) := by decide +kernel
theorem d_Tr_throwTubes_11 : decode prog_12_method_3_code 11 = .ok (.aload_n 0, 1) := by decide +kernel
theorem d_Tr_throwTubes_12 : decode prog_12_method_3_code 12 = .ok (.getfield 9, 3) := by decide +kernel
theorem d_Tr_throwTubes_15 : decode prog_12_method_3_code 15 = .ok (.iconst 0, 1) := by decide +kernel
theorem d_Tr_throwTubes_16 : decode prog_12_method_3_code 16 = .ok (.invokestatic 28, 3) := by decide +kernel
theorem d_Tr_throwTubes_19 : decode prog_12_method_3_code 19 = .ok (.aload_n 0, 1) := by decide +kernel
theorem d_Tr_throwTubes_20 : decode prog_12_method_3_code 20 = .ok (.iconst 0, 1) := by decide +kernel
theorem d_Tr_throwTubes_21 : decode prog_12_method_3_code 21 = .ok (.putfield 34, 3) := by decide +kernel
theorem d_Tr_throwTubes_24 : decode prog_12_method_3_code 24 = .ok (.aload_n 0, 1) := by decide +kernel
theorem d_Tr_throwTubes_25 : decode prog_12_method_3_code 25 = .ok (.iconst 0, 1) := by decide +kernel
theorem d_Tr_throwTubes_26 : decode prog_12_method_3_code 26 = .ok (.putfield 38, 3) := by decide +kernel
theorem d_Tr_throwTubes_29 : decode prog_12_method_3_code 29 = .ok (.aload_n 0, 1) := by decide +kernel
theorem d_Tr_throwTubes_30 : decode prog_12_method_3_code 30 = .ok (.iconst 0, 1) := by decide +kernel
theorem d_Tr_throwTubes_31 : decode prog_12_method_3_code 31 = .ok (.putfield 41, 3) := by decide +kernel
theorem d_Tr_throwTubes_34 : decode prog_12_method_3_code 34 = .ok (.iconst 0, 1) := by decide +kernel
theorem d_Tr_throwTubes_35 : decode prog_12_method_3_code 35 = .ok (.istore_n 3, 1) := by decide +kernel
theorem d_Tr_throwTubes_36 : decode prog_12_method_3_code 36 = .ok (.iload_n 3, 1) := by decide +kernel
theorem d_Tr_throwTubes_37 : decode prog_12_method_3_code 37 = .ok (.iload_n 1, 1) := by decide +kernel
theorem d_Tr_throwTubes_38 : decode prog_12_method_3_code 38 = .ok (.if_icmp .ge 91, 3) := by decide +kernel
theorem d_Tr_throwTubes_41 : decode prog_12_method_3_code 41 = .ok (.aload_n 0, 1) := by decide +kernel
theorem d_Tr_throwTubes_42 : decode prog_12_method_3_code 42 = .ok (.getfield 19, 3) := by decide +kernel
theorem d_Tr_throwTubes_45 : decode prog_12_method_3_code 45 = .ok (.getfield 44, 3) := by decide +kernel
theorem d_Tr_throwTubes_48 : decode prog_12_method_3_code 48 = .ok (.aload_n 0, 1) := by decide +kernel
theorem d_Tr_throwTubes_49 : decode prog_12_method_3_code 49 = .ok (.getfield 15, 3) := by decide +kernel
theorem d_Tr_throwTubes_52 : decode prog_12_method_3_code 52 = .ok (.getfield 44, 3) := by decide +kernel
theorem d_Tr_throwTubes_55 : decode prog_12_method_3_code 55 = .ok (.isub, 1) := by decide +kernel
theorem d_Tr_throwTubes_56 : decode prog_12_method_3_code 56 = .ok (.istore 4, 2) := by decide +kernel
theorem d_Tr_throwTubes_58 : decode prog_12_method_3_code 58 = .ok (.aload_n 0, 1) := by decide +kernel
theorem d_Tr_throwTubes_59 : decode prog_12_method_3_code 59 = .ok (.getfield 19, 3) := by decide +kernel
theorem d_Tr_throwTubes_62 : decode prog_12_method_3_code 62 = .ok (.iload_n 2, 1) := by decide +kernel
theorem d_Tr_throwTubes_63 : decode prog_12_method_3_code 63 = .ok (.invokevirtual 47, 3) := by decide +kernel
theorem d_Tr_throwTubes_66 : decode prog_12_method_3_code 66 = .ok (.istore 5, 2) := by decide +kernel
theorem d_Tr_throwTubes_68 : decode prog_12_method_3_code 68 = .ok (.iload 5, 2) := by decide +kernel
theorem d_Tr_throwTubes_70 : decode prog_12_method_3_code 70 = .ok (.ifCond .lt 32, 3) := by decide +kernel
theorem d_Tr_throwTubes_73 : decode prog_12_method_3_code 73 = .ok (.aload_n 0, 1) := by decide +kernel
theorem d_Tr_throwTubes_74 : decode prog_12_method_3_code 74 = .ok (.dup, 1) := by decide +kernel
theorem d_Tr_throwTubes_75 : decode prog_12_method_3_code 75 = .ok (.getfield 34, 3) := by decide +kernel
theorem d_Tr_throwTubes_78 : decode prog_12_method_3_code 78 = .ok (.iconst 1, 1) := by decide +kernel
theorem d_Tr_throwTubes_79 : decode prog_12_method_3_code 79 = .ok (.iadd, 1) := by decide +kernel
theorem d_Tr_throwTubes_80 : decode prog_12_method_3_code 80 = .ok (.putfield 34, 3) := by decide +kernel
theorem d_Tr_throwTubes_83 : decode prog_12_method_3_code 83 = .ok (.aload_n 0, 1) := by decide +kernel
theorem d_Tr_throwTubes_84 : decode prog_12_method_3_code 84 = .ok (.aload_n 0, 1) := by decide +kernel
theorem d_Tr_throwTubes_85 : decode prog_12_method_3_code 85 = .ok (.getfield 38, 3) := by decide +kernel
theorem d_Tr_throwTubes_88 : decode prog_12_method_3_code 88 = .ok (.iload 4, 2) := by decide +kernel
theorem d_Tr_throwTubes_90 : decode prog_12_method_3_code 90 = .ok (.iload 5, 2) := by decide +kernel
theorem d_Tr_throwTubes_92 : decode prog_12_method_3_code 92 = .ok (.iadd, 1) := by decide +kernel
theorem d_Tr_throwTubes_93 : decode prog_12_method_3_code 93 = .ok (.invokestatic 51, 3) := by decide +kernel
theorem d_Tr_throwTubes_96 : decode prog_12_method_3_code 96 = .ok (.putfield 38, 3) := by decide +kernel
theorem d_Tr_throwTubes_99 : decode prog_12_method_3_code 99 = .ok (.goto 24, 3) := by decide +kernel
theorem d_Tr_throwTubes_102 : decode prog_12_method_3_code 102 = .ok (.aload_n 0, 1) := by decide +kernel
theorem d_Tr_throwTubes_103 : decode prog_12_method_3_code 103 = .ok (.dup, 1) := by decide +kernel
theorem d_Tr_throwTubes_104 : decode prog_12_method_3_code 104 = .ok (.getfield 41, 3) := by decide +kernel
theorem d_Tr_throwTubes_107 : decode prog_12_method_3_code 107 = .ok (.iconst 1, 1) := by decide +kernel
theorem d_Tr_throwTubes_108 : decode prog_12_method_3_code 108 = .ok (.iload_n 3, 1) := by decide +kernel
theorem d_Tr_throwTubes_109 : decode prog_12_method_3_code 109 = .ok (.ishl, 1) := by decide +kernel
theorem d_Tr_throwTubes_110 : decode prog_12_method_3_code 110 = .ok (.ior, 1) := by decide +kernel
theorem d_Tr_throwTubes_111 : decode prog_12_method_3_code 111 = .ok (.putfield 41, 3) := by decide +kernel
theorem d_Tr_throwTubes_114 : decode prog_12_method_3_code 114 = .ok (.aload_n 0, 1) := by decide +kernel
theorem d_Tr_throwTubes_115 : decode prog_12_method_3_code 115 = .ok (.bipush (-10), 2) := by decide +kernel
theorem d_Tr_throwTubes_117 : decode prog_12_method_3_code 117 = .ok (.iload 5, 2) := by decide +kernel
theorem d_Tr_throwTubes_119 : decode prog_12_method_3_code 119 = .ok (.isub, 1) := by decide +kernel
theorem d_Tr_throwTubes_120 : decode prog_12_method_3_code 120 = .ok (.invokevirtual 57, 3) := by decide +kernel
theorem d_Tr_throwTubes_123 : decode prog_12_method_3_code 123 = .ok (.iinc 3 1, 3) := by decide +kernel
theorem d_Tr_throwTubes_126 : decode prog_12_method_3_code 126 = .ok (.goto (-90), 3) := by decide +kernel
theorem d_Tr_throwTubes_129 : decode prog_12_method_3_code 129 = .ok (.return_, 1) := by decide +kernel
theorem d_Ar_fill_AII_0 : decode prog_21_method_103_code 0 = .ok (.iconst 0, 1) := by decide +kernel
theorem d_Ar_fill_AII_1 : decode prog_21_method_103_code 1 = .ok (.istore_n 2, 1) := by decide +kernel
theorem d_Ar_fill_AII_2 : decode prog_21_method_103_code 2 = .ok (.aload_n 0, 1) := by decide +kernel
theorem d_Ar_fill_AII_3 : decode prog_21_method_103_code 3 = .ok (.arraylength, 1) := by decide +kernel
theorem d_Ar_fill_AII_4 : decode prog_21_method_103_code 4 = .ok (.istore_n 3, 1) := by decide +kernel
theorem d_Ar_fill_AII_5 : decode prog_21_method_103_code 5 = .ok (.iload_n 2, 1) := by decide +kernel
theorem d_Ar_fill_AII_6 : decode prog_21_method_103_code 6 = .ok (.iload_n 3, 1) := by decide +kernel
theorem d_Ar_fill_AII_7 : decode prog_21_method_103_code 7 = .ok (.if_icmp .ge 13, 3) := by decide +kernel
theorem d_Ar_fill_AII_10 : decode prog_21_method_103_code 10 = .ok (.aload_n 0, 1) := by decide +kernel
theorem d_Ar_fill_AII_11 : decode prog_21_method_103_code 11 = .ok (.iload_n 2, 1) := by decide +kernel
theorem d_Ar_fill_AII_12 : decode prog_21_method_103_code 12 = .ok (.iload_n 1, 1) := by decide +kernel
theorem d_Ar_fill_AII_13 : decode prog_21_method_103_code 13 = .ok (.iastore, 1) := by decide +kernel
theorem d_Ar_fill_AII_14 : decode prog_21_method_103_code 14 = .ok (.iinc 2 1, 3) := by decide +kernel
theorem d_Ar_fill_AII_17 : decode prog_21_method_103_code 17 = .ok (.goto (-12), 3) := by decide +kernel
theorem d_Ar_fill_AII_20 : decode prog_21_method_103_code 20 = .ok (.return_, 1) := by decide +kernel
theorem d_Tr_blame_0 : decode prog_12_method_4_code 0 = .ok (.iload_n 1, 1) := by decide +kernel
theorem d_Tr_blame_1 : decode prog_12_method_4_code 1 = .ok (.ifCond .lt 19, 3) := by decide +kernel
theorem d_Tr_blame_4 : decode prog_12_method_4_code 4 = .ok (.iload_n 1, 1) := by decide +kernel
theorem d_Tr_blame_5 : decode prog_12_method_4_code 5 = .ok (.bipush 6, 2) := by decide +kernel
theorem d_Tr_blame_7 : decode prog_12_method_4_code 7 = .ok (.if_icmp .ge 13, 3) := by decide +kernel
theorem d_Tr_blame_10 : decode prog_12_method_4_code 10 = .ok (.aload_n 0, 1) := by decide +kernel
theorem d_Tr_blame_11 : decode prog_12_method_4_code 11 = .ok (.getfield 9, 3) := by decide +kernel
theorem d_Tr_blame_14 : decode prog_12_method_4_code 14 = .ok (.iload_n 1, 1) := by decide +kernel
theorem d_Tr_blame_15 : decode prog_12_method_4_code 15 = .ok (.dup2, 1) := by decide +kernel
theorem d_Tr_blame_16 : decode prog_12_method_4_code 16 = .ok (.iaload, 1) := by decide +kernel
theorem d_Tr_blame_17 : decode prog_12_method_4_code 17 = .ok (.iconst 1, 1) := by decide +kernel
theorem d_Tr_blame_18 : decode prog_12_method_4_code 18 = .ok (.iadd, 1) := by decide +kernel
theorem d_Tr_blame_19 : decode prog_12_method_4_code 19 = .ok (.iastore, 1) := by decide +kernel
theorem d_Tr_blame_20 : decode prog_12_method_4_code 20 = .ok (.return_, 1) := by decide +kernel
theorem d_Tr_clumsiest_0 : decode prog_12_method_7_code 0 = .ok (.bipush (-5), 2) := by decide +kernel
theorem d_Tr_clumsiest_2 : decode prog_12_method_7_code 2 = .ok (.istore_n 1, 1) := by decide +kernel
theorem d_Tr_clumsiest_3 : decode prog_12_method_7_code 3 = .ok (.iconst 0, 1) := by decide +kernel
theorem d_Tr_clumsiest_4 : decode prog_12_method_7_code 4 = .ok (.istore_n 2, 1) := by decide +kernel
theorem d_Tr_clumsiest_5 : decode prog_12_method_7_code 5 = .ok (.iconst 0, 1) := by decide +kernel
theorem d_Tr_clumsiest_6 : decode prog_12_method_7_code 6 = .ok (.istore_n 3, 1) := by decide +kernel
theorem d_Tr_clumsiest_7 : decode prog_12_method_7_code 7 = .ok (.iload_n 3, 1) := by decide +kernel
theorem d_Tr_clumsiest_8 : decode prog_12_method_7_code 8 = .ok (.bipush 6, 2) := by decide +kernel
theorem d_Tr_clumsiest_10 : decode prog_12_method_7_code 10 = .ok (.if_icmp .ge 28, 3) := by decide +kernel
theorem d_Tr_clumsiest_13 : decode prog_12_method_7_code 13 = .ok (.aload_n 0, 1) := by decide +kernel
theorem d_Tr_clumsiest_14 : decode prog_12_method_7_code 14 = .ok (.getfield 9, 3) := by decide +kernel
theorem d_Tr_clumsiest_17 : decode prog_12_method_7_code 17 = .ok (.iload_n 3, 1) := by decide +kernel
theorem d_Tr_clumsiest_18 : decode prog_12_method_7_code 18 = .ok (.iaload, 1) := by decide +kernel
theorem d_Tr_clumsiest_19 : decode prog_12_method_7_code 19 = .ok (.iload_n 2, 1) := by decide +kernel
theorem d_Tr_clumsiest_20 : decode prog_12_method_7_code 20 = .ok (.if_icmp .le 12, 3) := by decide +kernel
theorem d_Tr_clumsiest_23 : decode prog_12_method_7_code 23 = .ok (.iload_n 3, 1) := by decide +kernel
theorem d_Tr_clumsiest_24 : decode prog_12_method_7_code 24 = .ok (.istore_n 1, 1) := by decide +kernel
theorem d_Tr_clumsiest_25 : decode prog_12_method_7_code 25 = .ok (.aload_n 0, 1) := by decide +kernel
theorem d_Tr_clumsiest_26 : decode prog_12_method_7_code 26 = .ok (.getfield 9, 3) := by decide +kernel
theorem d_Tr_clumsiest_29 : decode prog_12_method_7_code 29 = .ok (.iload_n 3, 1) := by decide +kernel
theorem d_Tr_clumsiest_30 : decode prog_12_method_7_code 30 = .ok (.iaload, 1) := by decide +kernel
theorem d_Tr_clumsiest_31 : decode prog_12_method_7_code 31 = .ok (.istore_n 2, 1) := by decide +kernel
theorem d_Tr_clumsiest_32 : decode prog_12_method_7_code 32 = .ok (.iinc 3 1, 3) := by decide +kernel
theorem d_Tr_clumsiest_35 : decode prog_12_method_7_code 35 = .ok (.goto (-28), 3) := by decide +kernel
theorem d_Tr_clumsiest_38 : decode prog_12_method_7_code 38 = .ok (.iload_n 1, 1) := by decide +kernel
theorem d_Tr_clumsiest_39 : decode prog_12_method_7_code 39 = .ok (.ireturn, 1) := by decide +kernel
theorem d_TC_safe_0 : decode prog_1_method_14_code 0 = .ok (.iload_n 1, 1) := by decide +kernel
theorem d_TC_safe_1 : decode prog_1_method_14_code 1 = .ok (.iconst 1, 1) := by decide +kernel
theorem d_TC_safe_2 : decode prog_1_method_14_code 2 = .ok (.if_icmp .lt 9, 3) := by decide +kernel
theorem d_TC_safe_5 : decode prog_1_method_14_code 5 = .ok (.iload_n 1, 1) := by decide +kernel
theorem d_TC_safe_6 : decode prog_1_method_14_code 6 = .ok (.bipush 20, 2) := by decide +kernel
theorem d_TC_safe_8 : decode prog_1_method_14_code 8 = .ok (.if_icmp .le 6, 3) := by decide +kernel
theorem d_TC_safe_11 : decode prog_1_method_14_code 11 = .ok (.bipush (-2), 2) := by decide +kernel
theorem d_TC_safe_13 : decode prog_1_method_14_code 13 = .ok (.ireturn, 1) := by decide +kernel
theorem d_TC_safe_14 : decode prog_1_method_14_code 14 = .ok (.aload_n 0, 1) := by decide +kernel
theorem d_TC_safe_15 : decode prog_1_method_14_code 15 = .ok (.getfield 38, 3) := by decide +kernel
theorem d_TC_safe_18 : decode prog_1_method_14_code 18 = .ok (.aload_n 0, 1) := by decide +kernel
theorem d_TC_safe_19 : decode prog_1_method_14_code 19 = .ok (.getfield 24, 3) := by decide +kernel
theorem d_TC_safe_22 : decode prog_1_method_14_code 22 = .ok (.invokevirtual 185, 3) := by decide +kernel
theorem d_TC_safe_25 : decode prog_1_method_14_code 25 = .ok (.aload_n 0, 1) := by decide +kernel
theorem d_TC_safe_26 : decode prog_1_method_14_code 26 = .ok (.getfield 38, 3) := by decide +kernel
theorem d_TC_safe_29 : decode prog_1_method_14_code 29 = .ok (.iload_n 1, 1) := by decide +kernel
theorem d_TC_safe_30 : decode prog_1_method_14_code 30 = .ok (.bipush 100, 2) := by decide +kernel
theorem d_TC_safe_32 : decode prog_1_method_14_code 32 = .ok (.invokevirtual 202, 3) := by decide +kernel
theorem d_TC_safe_35 : decode prog_1_method_14_code 35 = .ok (.istore_n 2, 1) := by decide +kernel
theorem d_TC_safe_36 : decode prog_1_method_14_code 36 = .ok (.iload_n 2, 1) := by decide +kernel
theorem d_TC_safe_37 : decode prog_1_method_14_code 37 = .ok (.bipush 99, 2) := by decide +kernel
theorem d_TC_safe_39 : decode prog_1_method_14_code 39 = .ok (.if_icmp .le 8, 3) := by decide +kernel
theorem d_TC_safe_42 : decode prog_1_method_14_code 42 = .ok (.bipush (-5), 2) := by decide +kernel
theorem d_TC_safe_44 : decode prog_1_method_14_code 44 = .ok (.goto 4, 3) := by decide +kernel
theorem d_TC_safe_47 : decode prog_1_method_14_code 47 = .ok (.iload_n 2, 1) := by decide +kernel
theorem d_TC_safe_48 : decode prog_1_method_14_code 48 = .ok (.ireturn, 1) := by decide +kernel
theorem d_Tr_leastSafeBelow_0 : decode prog_12_method_6_code 0 = .ok (.iconst 1, 1) := by decide +kernel
theorem d_Tr_leastSafeBelow_1 : decode prog_12_method_6_code 1 = .ok (.istore_n 3, 1) := by decide +kernel
theorem d_Tr_leastSafeBelow_2 : decode prog_12_method_6_code 2 = .ok (.iload_n 3, 1) := by decide +kernel
theorem d_Tr_leastSafeBelow_3 : decode prog_12_method_6_code 3 = .ok (.iload_n 2, 1) := by decide +kernel
theorem d_Tr_leastSafeBelow_4 : decode prog_12_method_6_code 4 = .ok (.if_icmp .ge 22, 3) := by decide +kernel
theorem d_Tr_leastSafeBelow_7 : decode prog_12_method_6_code 7 = .ok (.aload_n 0, 1) := by decide +kernel
theorem d_Tr_leastSafeBelow_8 : decode prog_12_method_6_code 8 = .ok (.iload_n 1, 1) := by decide +kernel
theorem d_Tr_leastSafeBelow_9 : decode prog_12_method_6_code 9 = .ok (.iload_n 3, 1) := by decide +kernel
theorem d_Tr_leastSafeBelow_10 : decode prog_12_method_6_code 10 = .ok (.iconst 0, 1) := by decide +kernel
theorem d_Tr_leastSafeBelow_11 : decode prog_12_method_6_code 11 = .ok (.iconst 0, 1) := by decide +kernel
theorem d_Tr_leastSafeBelow_12 : decode prog_12_method_6_code 12 = .ok (.invokevirtual 61, 3) := by decide +kernel
theorem d_Tr_leastSafeBelow_15 : decode prog_12_method_6_code 15 = .ok (.ifCond .eq 5, 3) := by decide +kernel
theorem d_Tr_leastSafeBelow_18 : decode prog_12_method_6_code 18 = .ok (.iload_n 3, 1) := by decide +kernel
theorem d_Tr_leastSafeBelow_19 : decode prog_12_method_6_code 19 = .ok (.ireturn, 1) := by decide +kernel
theorem d_Tr_leastSafeBelow_20 : decode prog_12_method_6_code 20 = .ok (.iinc 3 1, 3) := by decide +kernel
theorem d_Tr_leastSafeBelow_23 : decode prog_12_method_6_code 23 = .ok (.goto (-21), 3) := by decide +kernel
theorem d_Tr_leastSafeBelow_26 : decode prog_12_method_6_code 26 = .ok (.iload_n 2, 1) := by decide +kernel
theorem d_Tr_leastSafeBelow_27 : decode prog_12_method_6_code 27 = .ok (.ireturn, 1) := by decide +kernel
theorem d_Tr_noneFalls_0 : decode prog_12_method_5_code 0 = .ok (.aload_n 0, 1) := by decide +kernel
theorem d_Tr_noneFalls_1 : decode prog_12_method_5_code 1 = .ok (.getfield 19, 3) := by decide +kernel
theorem d_Tr_noneFalls_4 : decode prog_12_method_5_code 4 = .ok (.aload_n 0, 1) := by decide +kernel
theorem d_Tr_noneFalls_5 : decode prog_12_method_5_code 5 = .ok (.getfield 15, 3) := by decide +kernel
theorem d_Tr_noneFalls_8 : decode prog_12_method_5_code 8 = .ok (.invokevirtual 22, 3) := by decide +kernel
theorem d_Tr_noneFalls_11 : decode prog_12_method_5_code 11 = .ok (.iconst 1, 1) := by decide +kernel
theorem d_Tr_noneFalls_12 : decode prog_12_method_5_code 12 = .ok (.istore 5, 2) := by decide +kernel
theorem d_Tr_noneFalls_14 : decode prog_12_method_5_code 14 = .ok (.iload 5, 2) := by decide +kernel
theorem d_Tr_noneFalls_16 : decode prog_12_method_5_code 16 = .ok (.iload_n 1, 1) := by decide +kernel
theorem d_Tr_noneFalls_17 : decode prog_12_method_5_code 17 = .ok (.if_icmp .gt 47, 3) := by decide +kernel
theorem d_Tr_noneFalls_20 : decode prog_12_method_5_code 20 = .ok (.aload_n 0, 1) := by decide +kernel
theorem d_Tr_noneFalls_21 : decode prog_12_method_5_code 21 = .ok (.getfield 19, 3) := by decide +kernel
theorem d_Tr_noneFalls_24 : decode prog_12_method_5_code 24 = .ok (.iload_n 2, 1) := by decide +kernel
theorem d_Tr_noneFalls_25 : decode prog_12_method_5_code 25 = .ok (.invokevirtual 47, 3) := by decide +kernel
theorem d_Tr_noneFalls_28 : decode prog_12_method_5_code 28 = .ok (.ifCond .ge 5, 3) := by decide +kernel
theorem d_Tr_noneFalls_31 : decode prog_12_method_5_code 31 = .ok (.iconst 0, 1) := by decide +kernel
theorem d_Tr_noneFalls_32 : decode prog_12_method_5_code 32 = .ok (.ireturn, 1) := by decide +kernel
theorem d_Tr_noneFalls_33 : decode prog_12_method_5_code 33 = .ok (.iload_n 3, 1) := by decide +kernel
theorem d_Tr_noneFalls_34 : decode prog_12_method_5_code 34 = .ok (.ifCond .le 24, 3) := by decide +kernel
theorem d_Tr_noneFalls_37 : decode prog_12_method_5_code 37 = .ok (.iload 5, 2) := by decide +kernel
theorem d_Tr_noneFalls_39 : decode prog_12_method_5_code 39 = .ok (.iload_n 3, 1) := by decide +kernel
theorem d_Tr_noneFalls_40 : decode prog_12_method_5_code 40 = .ok (.irem, 1) := by decide +kernel
theorem d_Tr_noneFalls_41 : decode prog_12_method_5_code 41 = .ok (.ifCond .ne 17, 3) := by decide +kernel
theorem d_Tr_noneFalls_44 : decode prog_12_method_5_code 44 = .ok (.aload_n 0, 1) := by decide +kernel
theorem d_Tr_noneFalls_45 : decode prog_12_method_5_code 45 = .ok (.getfield 19, 3) := by decide +kernel
theorem d_Tr_noneFalls_48 : decode prog_12_method_5_code 48 = .ok (.dup, 1) := by decide +kernel
theorem d_Tr_noneFalls_49 : decode prog_12_method_5_code 49 = .ok (.getfield 44, 3) := by decide +kernel
theorem d_Tr_noneFalls_52 : decode prog_12_method_5_code 52 = .ok (.iload 4, 2) := by decide +kernel
theorem d_Tr_noneFalls_54 : decode prog_12_method_5_code 54 = .ok (.iadd, 1) := by decide +kernel
theorem d_Tr_noneFalls_55 : decode prog_12_method_5_code 55 = .ok (.putfield 44, 3) := by decide +kernel
theorem d_Tr_noneFalls_58 : decode prog_12_method_5_code 58 = .ok (.iinc 5 1, 3) := by decide +kernel
theorem d_Tr_noneFalls_61 : decode prog_12_method_5_code 61 = .ok (.goto (-47), 3) := by decide +kernel
theorem d_Tr_noneFalls_64 : decode prog_12_method_5_code 64 = .ok (.iconst 1, 1) := by decide +kernel
theorem d_Tr_noneFalls_65 : decode prog_12_method_5_code 65 = .ok (.ireturn, 1) := by decide +kernel
theorem d_TC_best_0 : decode prog_1_method_15_code 0 = .ok (.iload_n 2, 1) := by decide +kernel
theorem d_TC_best_1 : decode prog_1_method_15_code 1 = .ok (.ifCond .lt 8, 3) := by decide +kernel
theorem d_TC_best_4 : decode prog_1_method_15_code 4 = .ok (.iload_n 2, 1) := by decide +kernel
theorem d_TC_best_5 : decode prog_1_method_15_code 5 = .ok (.iconst 1, 1) := by decide +kernel
theorem d_TC_best_6 : decode prog_1_method_15_code 6 = .ok (.if_icmp .le 5, 3) := by decide +kernel
theorem d_TC_best_9 : decode prog_1_method_15_code 9 = .ok (.iconst (-1), 1) := by decide +kernel
theorem d_TC_best_10 : decode prog_1_method_15_code 10 = .ok (.ireturn, 1) := by decide +kernel
theorem d_TC_best_11 : decode prog_1_method_15_code 11 = .ok (.iload_n 1, 1) := by decide +kernel
theorem d_TC_best_12 : decode prog_1_method_15_code 12 = .ok (.iconst 1, 1) := by decide +kernel
theorem d_TC_best_13 : decode prog_1_method_15_code 13 = .ok (.if_icmp .lt 9, 3) := by decide +kernel
theorem d_TC_best_16 : decode prog_1_method_15_code 16 = .ok (.iload_n 1, 1) := by decide +kernel
theorem d_TC_best_17 : decode prog_1_method_15_code 17 = .ok (.bipush 20, 2) := by decide +kernel
theorem d_TC_best_19 : decode prog_1_method_15_code 19 = .ok (.if_icmp .le 6, 3) := by decide +kernel
theorem d_TC_best_22 : decode prog_1_method_15_code 22 = .ok (.bipush (-2), 2) := by decide +kernel
theorem d_TC_best_24 : decode prog_1_method_15_code 24 = .ok (.ireturn, 1) := by decide +kernel
theorem d_TC_best_25 : decode prog_1_method_15_code 25 = .ok (.aload_n 0, 1) := by decide +kernel
theorem d_TC_best_26 : decode prog_1_method_15_code 26 = .ok (.getfield 38, 3) := by decide +kernel
theorem d_TC_best_29 : decode prog_1_method_15_code 29 = .ok (.aload_n 0, 1) := by decide +kernel
theorem d_TC_best_30 : decode prog_1_method_15_code 30 = .ok (.getfield 24, 3) := by decide +kernel
theorem d_TC_best_33 : decode prog_1_method_15_code 33 = .ok (.invokevirtual 185, 3) := by decide +kernel
theorem d_TC_best_36 : decode prog_1_method_15_code 36 = .ok (.iconst 1, 1) := by decide +kernel
theorem d_TC_best_37 : decode prog_1_method_15_code 37 = .ok (.istore_n 3, 1) := by decide +kernel
theorem d_TC_best_38 : decode prog_1_method_15_code 38 = .ok (.iconst (-1), 1) := by decide +kernel
theorem d_TC_best_39 : decode prog_1_method_15_code 39 = .ok (.istore 4, 2) := by decide +kernel
theorem d_TC_best_41 : decode prog_1_method_15_code 41 = .ok (.iconst 0, 1) := by decide +kernel
theorem d_TC_best_42 : decode prog_1_method_15_code 42 = .ok (.istore 5, 2) := by decide +kernel
theorem d_TC_best_44 : decode prog_1_method_15_code 44 = .ok (.iconst 1, 1) := by decide +kernel
theorem d_TC_best_45 : decode prog_1_method_15_code 45 = .ok (.istore 6, 2) := by decide +kernel
theorem d_TC_best_47 : decode prog_1_method_15_code 47 = .ok (.iload 6, 2) := by decide +kernel
theorem d_TC_best_49 : decode prog_1_method_15_code 49 = .ok (.bipush 99, 2) := by decide +kernel
theorem d_TC_best_51 : decode prog_1_method_15_code 51 = .ok (.if_icmp .gt 76, 3) := by decide +kernel
theorem d_TC_best_54 : decode prog_1_method_15_code 54 = .ok (.aload_n 0, 1) := by decide +kernel
theorem d_TC_best_55 : decode prog_1_method_15_code 55 = .ok (.getfield 38, 3) := by decide +kernel
theorem d_TC_best_58 : decode prog_1_method_15_code 58 = .ok (.iload_n 1, 1) := by decide +kernel
theorem d_TC_best_59 : decode prog_1_method_15_code 59 = .ok (.iload 6, 2) := by decide +kernel
theorem d_TC_best_61 : decode prog_1_method_15_code 61 = .ok (.invokevirtual 189, 3) := by decide +kernel
theorem d_TC_best_64 : decode prog_1_method_15_code 64 = .ok (.aload_n 0, 1) := by decide +kernel
theorem d_TC_best_65 : decode prog_1_method_15_code 65 = .ok (.getfield 38, 3) := by decide +kernel
theorem d_TC_best_68 : decode prog_1_method_15_code 68 = .ok (.getfield 192, 3) := by decide +kernel
theorem d_TC_best_71 : decode prog_1_method_15_code 71 = .ok (.iload 4, 2) := by decide +kernel
theorem d_TC_best_73 : decode prog_1_method_15_code 73 = .ok (.if_icmp .gt 27, 3) := by decide +kernel
theorem d_TC_best_76 : decode prog_1_method_15_code 76 = .ok (.aload_n 0, 1) := by decide +kernel
theorem d_TC_best_77 : decode prog_1_method_15_code 77 = .ok (.getfield 38, 3) := by decide +kernel
theorem d_TC_best_80 : decode prog_1_method_15_code 80 = .ok (.getfield 192, 3) := by decide +kernel
theorem d_TC_best_83 : decode prog_1_method_15_code 83 = .ok (.iload 4, 2) := by decide +kernel
theorem d_TC_best_85 : decode prog_1_method_15_code 85 = .ok (.if_icmp .ne 36, 3) := by decide +kernel
theorem d_TC_best_88 : decode prog_1_method_15_code 88 = .ok (.aload_n 0, 1) := by decide +kernel
theorem d_TC_best_89 : decode prog_1_method_15_code 89 = .ok (.getfield 38, 3) := by decide +kernel
theorem d_TC_best_92 : decode prog_1_method_15_code 92 = .ok (.getfield 193, 3) := by decide +kernel
theorem d_TC_best_95 : decode prog_1_method_15_code 95 = .ok (.iload 5, 2) := by decide +kernel
theorem d_TC_best_97 : decode prog_1_method_15_code 97 = .ok (.if_icmp .ge 24, 3) := by decide +kernel
theorem d_TC_best_100 : decode prog_1_method_15_code 100 = .ok (.iload 6, 2) := by decide +kernel
theorem d_TC_best_102 : decode prog_1_method_15_code 102 = .ok (.istore_n 3, 1) := by decide +kernel
theorem d_TC_best_103 : decode prog_1_method_15_code 103 = .ok (.aload_n 0, 1) := by decide +kernel
theorem d_TC_best_104 : decode prog_1_method_15_code 104 = .ok (.getfield 38, 3) := by decide +kernel
theorem d_TC_best_107 : decode prog_1_method_15_code 107 = .ok (.getfield 192, 3) := by decide +kernel
theorem d_TC_best_110 : decode prog_1_method_15_code 110 = .ok (.istore 4, 2) := by decide +kernel
theorem d_TC_best_112 : decode prog_1_method_15_code 112 = .ok (.aload_n 0, 1) := by decide +kernel
theorem d_TC_best_113 : decode prog_1_method_15_code 113 = .ok (.getfield 38, 3) := by decide +kernel
theorem d_TC_best_116 : decode prog_1_method_15_code 116 = .ok (.getfield 193, 3) := by decide +kernel
theorem d_TC_best_119 : decode prog_1_method_15_code 119 = .ok (.istore 5, 2) := by decide +kernel
theorem d_TC_best_121 : decode prog_1_method_15_code 121 = .ok (.iinc 6 1, 3) := by decide +kernel
theorem d_TC_best_124 : decode prog_1_method_15_code 124 = .ok (.goto (-77), 3) := by decide +kernel
theorem d_TC_best_127 : decode prog_1_method_15_code 127 = .ok (.iload_n 2, 1) := by decide +kernel
theorem d_TC_best_128 : decode prog_1_method_15_code 128 = .ok (.ifCond .ne 7, 3) := by decide +kernel
theorem d_TC_best_131 : decode prog_1_method_15_code 131 = .ok (.iload_n 3, 1) := by decide +kernel
theorem d_TC_best_132 : decode prog_1_method_15_code 132 = .ok (.goto 5, 3) := by decide +kernel
theorem d_TC_best_135 : decode prog_1_method_15_code 135 = .ok (.iload 4, 2) := by decide +kernel
theorem d_TC_best_137 : decode prog_1_method_15_code 137 = .ok (.ireturn, 1) := by decide +kernel
theorem d_TC_slowest_0 : decode prog_1_method_16_code 0 = .ok (.bipush (-5), 2) := by decide +kernel
theorem d_TC_slowest_2 : decode prog_1_method_16_code 2 = .ok (.istore_n 1, 1) := by decide +kernel
theorem d_TC_slowest_3 : decode prog_1_method_16_code 3 = .ok (.iconst 0, 1) := by decide +kernel
theorem d_TC_slowest_4 : decode prog_1_method_16_code 4 = .ok (.istore_n 2, 1) := by decide +kernel
theorem d_TC_slowest_5 : decode prog_1_method_16_code 5 = .ok (.iconst 0, 1) := by decide +kernel
theorem d_TC_slowest_6 : decode prog_1_method_16_code 6 = .ok (.istore_n 3, 1) := by decide +kernel
theorem d_TC_slowest_7 : decode prog_1_method_16_code 7 = .ok (.iload_n 3, 1) := by decide +kernel
theorem d_TC_slowest_8 : decode prog_1_method_16_code 8 = .ok (.aload_n 0, 1) := by decide +kernel
theorem d_TC_slowest_9 : decode prog_1_method_16_code 9 = .ok (.getfield 24, 3) := by decide +kernel
theorem d_TC_slowest_12 : decode prog_1_method_16_code 12 = .ok (.getfield 131, 3) := by decide +kernel
theorem d_TC_slowest_15 : decode prog_1_method_16_code 15 = .ok (.if_icmp .ge 38, 3) := by decide +kernel
theorem d_TC_slowest_18 : decode prog_1_method_16_code 18 = .ok (.aload_n 0, 1) := by decide +kernel
theorem d_TC_slowest_19 : decode prog_1_method_16_code 19 = .ok (.getfield 24, 3) := by decide +kernel
theorem d_TC_slowest_22 : decode prog_1_method_16_code 22 = .ok (.iload_n 3, 1) := by decide +kernel
theorem d_TC_slowest_23 : decode prog_1_method_16_code 23 = .ok (.invokevirtual 125, 3) := by decide +kernel
theorem d_TC_slowest_26 : decode prog_1_method_16_code 26 = .ok (.istore 4, 2) := by decide +kernel
theorem d_TC_slowest_28 : decode prog_1_method_16_code 28 = .ok (.iload 4, 2) := by decide +kernel
theorem d_TC_slowest_30 : decode prog_1_method_16_code 30 = .ok (.iload_n 2, 1) := by decide +kernel
theorem d_TC_slowest_31 : decode prog_1_method_16_code 31 = .ok (.if_icmp .le 16, 3) := by decide +kernel
theorem d_TC_slowest_34 : decode prog_1_method_16_code 34 = .ok (.aload_n 0, 1) := by decide +kernel
theorem d_TC_slowest_35 : decode prog_1_method_16_code 35 = .ok (.getfield 24, 3) := by decide +kernel
theorem d_TC_slowest_38 : decode prog_1_method_16_code 38 = .ok (.getfield 172, 3) := by decide +kernel
theorem d_TC_slowest_41 : decode prog_1_method_16_code 41 = .ok (.iload_n 3, 1) := by decide +kernel
theorem d_TC_slowest_42 : decode prog_1_method_16_code 42 = .ok (.iaload, 1) := by decide +kernel
theorem d_TC_slowest_43 : decode prog_1_method_16_code 43 = .ok (.istore_n 1, 1) := by decide +kernel
theorem d_TC_slowest_44 : decode prog_1_method_16_code 44 = .ok (.iload 4, 2) := by decide +kernel
theorem d_TC_slowest_46 : decode prog_1_method_16_code 46 = .ok (.istore_n 2, 1) := by decide +kernel
theorem d_TC_slowest_47 : decode prog_1_method_16_code 47 = .ok (.iinc 3 1, 3) := by decide +kernel
theorem d_TC_slowest_50 : decode prog_1_method_16_code 50 = .ok (.goto (-43), 3) := by decide +kernel
theorem d_TC_slowest_53 : decode prog_1_method_16_code 53 = .ok (.iload_n 1, 1) := by decide +kernel
theorem d_TC_slowest_54 : decode prog_1_method_16_code 54 = .ok (.ireturn, 1) := by decide +kernel
theorem d_TC_order_0 : decode prog_1_method_17_code 0 = .ok (.iload_n 2, 1) := by decide +kernel
theorem d_TC_order_1 : decode prog_1_method_17_code 1 = .ok (.iconst (-1), 1) := by decide +kernel
theorem d_TC_order_2 : decode prog_1_method_17_code 2 = .ok (.if_icmp .lt 8, 3) := by decide +kernel
theorem d_TC_order_5 : decode prog_1_method_17_code 5 = .ok (.iload_n 2, 1) := by decide +kernel
theorem d_TC_order_6 : decode prog_1_method_17_code 6 = .ok (.iconst 4, 1) := by decide +kernel
theorem d_TC_order_7 : decode prog_1_method_17_code 7 = .ok (.if_icmp .lt 5, 3) := by decide +kernel
theorem d_TC_order_10 : decode prog_1_method_17_code 10 = .ok (.iconst (-1), 1) := by decide +kernel
theorem d_TC_order_11 : decode prog_1_method_17_code 11 = .ok (.ireturn, 1) := by decide +kernel
theorem d_TC_order_12 : decode prog_1_method_17_code 12 = .ok (.iload_n 1, 1) := by decide +kernel
theorem d_TC_order_13 : decode prog_1_method_17_code 13 = .ok (.iconst 1, 1) := by decide +kernel
theorem d_TC_order_14 : decode prog_1_method_17_code 14 = .ok (.if_icmp .lt 9, 3) := by decide +kernel
theorem d_TC_order_17 : decode prog_1_method_17_code 17 = .ok (.iload_n 1, 1) := by decide +kernel
theorem d_TC_order_18 : decode prog_1_method_17_code 18 = .ok (.bipush 8, 2) := by decide +kernel
theorem d_TC_order_20 : decode prog_1_method_17_code 20 = .ok (.if_icmp .le 6, 3) := by decide +kernel
theorem d_TC_order_23 : decode prog_1_method_17_code 23 = .ok (.bipush (-2), 2) := by decide +kernel
theorem d_TC_order_25 : decode prog_1_method_17_code 25 = .ok (.ireturn, 1) := by decide +kernel
theorem d_TC_order_26 : decode prog_1_method_17_code 26 = .ok (.aload_n 0, 1) := by decide +kernel
theorem d_TC_order_27 : decode prog_1_method_17_code 27 = .ok (.getfield 24, 3) := by decide +kernel
theorem d_TC_order_30 : decode prog_1_method_17_code 30 = .ok (.getfield 67, 3) := by decide +kernel
theorem d_TC_order_33 : decode prog_1_method_17_code 33 = .ok (.iconst 4, 1) := by decide +kernel
theorem d_TC_order_34 : decode prog_1_method_17_code 34 = .ok (.if_icmp .le 6, 3) := by decide +kernel
theorem d_TC_order_37 : decode prog_1_method_17_code 37 = .ok (.bipush (-9), 2) := by decide +kernel
theorem d_TC_order_39 : decode prog_1_method_17_code 39 = .ok (.ireturn, 1) := by decide +kernel
theorem d_TC_order_40 : decode prog_1_method_17_code 40 = .ok (.aload_n 0, 1) := by decide +kernel
theorem d_TC_order_41 : decode prog_1_method_17_code 41 = .ok (.getfield 38, 3) := by decide +kernel
theorem d_TC_order_44 : decode prog_1_method_17_code 44 = .ok (.aload_n 0, 1) := by decide +kernel
theorem d_TC_order_45 : decode prog_1_method_17_code 45 = .ok (.getfield 24, 3) := by decide +kernel
theorem d_TC_order_48 : decode prog_1_method_17_code 48 = .ok (.invokevirtual 185, 3) := by decide +kernel
theorem d_TC_order_51 : decode prog_1_method_17_code 51 = .ok (.aload_n 0, 1) := by decide +kernel
theorem d_TC_order_52 : decode prog_1_method_17_code 52 = .ok (.getfield 38, 3) := by decide +kernel
theorem d_TC_order_55 : decode prog_1_method_17_code 55 = .ok (.getfield 206, 3) := by decide +kernel
theorem d_TC_order_58 : decode prog_1_method_17_code 58 = .ok (.astore_n 3, 1) := by decide +kernel
theorem d_TC_order_59 : decode prog_1_method_17_code 59 = .ok (.aload_n 3, 1) := by decide +kernel
theorem d_TC_order_60 : decode prog_1_method_17_code 60 = .ok (.invokevirtual 209, 3) := by decide +kernel
theorem d_TC_order_63 : decode prog_1_method_17_code 63 = .ok (.aload_n 3, 1) := by decide +kernel
theorem d_TC_order_64 : decode prog_1_method_17_code 64 = .ok (.getfield 172, 3) := by decide +kernel
theorem d_TC_order_67 : decode prog_1_method_17_code 67 = .ok (.iconst 0, 1) := by decide +kernel
theorem d_TC_order_68 : decode prog_1_method_17_code 68 = .ok (.aload_n 0, 1) := by decide +kernel
theorem d_TC_order_69 : decode prog_1_method_17_code 69 = .ok (.getfield 61, 3) := by decide +kernel
theorem d_TC_order_72 : decode prog_1_method_17_code 72 = .ok (.iconst 0, 1) := by decide +kernel
theorem d_TC_order_73 : decode prog_1_method_17_code 73 = .ok (.bipush 6, 2) := by decide +kernel
theorem d_TC_order_75 : decode prog_1_method_17_code 75 = .ok (.invokestatic 212, 3) := by decide +kernel
theorem d_TC_order_78 : decode prog_1_method_17_code 78 = .ok (.bipush 100, 2) := by decide +kernel
theorem d_TC_order_80 : decode prog_1_method_17_code 80 = .ok (.istore 4, 2) := by decide +kernel
theorem d_TC_order_82 : decode prog_1_method_17_code 82 = .ok (.iconst 0, 1) := by decide +kernel
theorem d_TC_order_83 : decode prog_1_method_17_code 83 = .ok (.istore 5, 2) := by decide +kernel
theorem d_TC_order_85 : decode prog_1_method_17_code 85 = .ok (.iload 5, 2) := by decide +kernel
theorem d_TC_order_87 : decode prog_1_method_17_code 87 = .ok (.bipush 24, 2) := by decide +kernel
theorem d_TC_order_89 : decode prog_1_method_17_code 89 = .ok (.if_icmp .ge 57, 3) := by decide +kernel
theorem d_TC_order_92 : decode prog_1_method_17_code 92 = .ok (.aload_n 0, 1) := by decide +kernel
theorem d_TC_order_93 : decode prog_1_method_17_code 93 = .ok (.getfield 38, 3) := by decide +kernel
theorem d_TC_order_96 : decode prog_1_method_17_code 96 = .ok (.iload_n 1, 1) := by decide +kernel
theorem d_TC_order_97 : decode prog_1_method_17_code 97 = .ok (.iload 4, 2) := by decide +kernel
theorem d_TC_order_99 : decode prog_1_method_17_code 99 = .ok (.invokevirtual 202, 3) := by decide +kernel
theorem d_TC_order_102 : decode prog_1_method_17_code 102 = .ok (.istore 6, 2) := by decide +kernel
theorem d_TC_order_104 : decode prog_1_method_17_code 104 = .ok (.iload 6, 2) := by decide +kernel
theorem d_TC_order_106 : decode prog_1_method_17_code 106 = .ok (.iload 4, 2) := by decide +kernel
theorem d_TC_order_108 : decode prog_1_method_17_code 108 = .ok (.if_icmp .ge 22, 3) := by decide +kernel
theorem d_TC_order_111 : decode prog_1_method_17_code 111 = .ok (.iload 6, 2) := by decide +kernel
theorem d_TC_order_113 : decode prog_1_method_17_code 113 = .ok (.istore 4, 2) := by decide +kernel
theorem d_TC_order_115 : decode prog_1_method_17_code 115 = .ok (.aload_n 3, 1) := by decide +kernel
theorem d_TC_order_116 : decode prog_1_method_17_code 116 = .ok (.getfield 172, 3) := by decide +kernel
theorem d_TC_order_119 : decode prog_1_method_17_code 119 = .ok (.iconst 0, 1) := by decide +kernel
theorem d_TC_order_120 : decode prog_1_method_17_code 120 = .ok (.aload_n 0, 1) := by decide +kernel
theorem d_TC_order_121 : decode prog_1_method_17_code 121 = .ok (.getfield 61, 3) := by decide +kernel
theorem d_TC_order_124 : decode prog_1_method_17_code 124 = .ok (.iconst 0, 1) := by decide +kernel
theorem d_TC_order_125 : decode prog_1_method_17_code 125 = .ok (.bipush 6, 2) := by decide +kernel
theorem d_TC_order_127 : decode prog_1_method_17_code 127 = .ok (.invokestatic 212, 3) := by decide +kernel
theorem d_TC_order_130 : decode prog_1_method_17_code 130 = .ok (.aload_n 3, 1) := by decide +kernel
theorem d_TC_order_131 : decode prog_1_method_17_code 131 = .ok (.invokevirtual 218, 3) := by decide +kernel
theorem d_TC_order_134 : decode prog_1_method_17_code 134 = .ok (.ifCond .ne 6, 3) := by decide +kernel
theorem d_TC_order_137 : decode prog_1_method_17_code 137 = .ok (.goto 9, 3) := by decide +kernel
theorem d_TC_order_140 : decode prog_1_method_17_code 140 = .ok (.iinc 5 1, 3) := by decide +kernel
theorem d_TC_order_143 : decode prog_1_method_17_code 143 = .ok (.goto (-58), 3) := by decide +kernel
theorem d_TC_order_146 : decode prog_1_method_17_code 146 = .ok (.iload_n 2, 1) := by decide +kernel
theorem d_TC_order_147 : decode prog_1_method_17_code 147 = .ok (.ifCond .ge 18, 3) := by decide +kernel
theorem d_TC_order_150 : decode prog_1_method_17_code 150 = .ok (.iload 4, 2) := by decide +kernel
theorem d_TC_order_152 : decode prog_1_method_17_code 152 = .ok (.bipush 99, 2) := by decide +kernel
theorem d_TC_order_154 : decode prog_1_method_17_code 154 = .ok (.if_icmp .le 8, 3) := by decide +kernel
theorem d_TC_order_157 : decode prog_1_method_17_code 157 = .ok (.bipush (-5), 2) := by decide +kernel
theorem d_TC_order_159 : decode prog_1_method_17_code 159 = .ok (.goto 5, 3) := by decide +kernel
theorem d_TC_order_162 : decode prog_1_method_17_code 162 = .ok (.iload 4, 2) := by decide +kernel
theorem d_TC_order_164 : decode prog_1_method_17_code 164 = .ok (.ireturn, 1) := by decide +kernel
theorem d_TC_order_165 : decode prog_1_method_17_code 165 = .ok (.iload_n 2, 1) := by decide +kernel
theorem d_TC_order_166 : decode prog_1_method_17_code 166 = .ok (.aload_n 0, 1) := by decide +kernel
theorem d_TC_order_167 : decode prog_1_method_17_code 167 = .ok (.getfield 24, 3) := by decide +kernel
theorem d_TC_order_170 : decode prog_1_method_17_code 170 = .ok (.getfield 67, 3) := by decide +kernel
theorem d_TC_order_173 : decode prog_1_method_17_code 173 = .ok (.if_icmp .ge 12, 3) := by decide +kernel
theorem d_TC_order_176 : decode prog_1_method_17_code 176 = .ok (.aload_n 0, 1) := by decide +kernel
theorem d_TC_order_177 : decode prog_1_method_17_code 177 = .ok (.getfield 61, 3) := by decide +kernel
theorem d_TC_order_180 : decode prog_1_method_17_code 180 = .ok (.iload_n 2, 1) := by decide +kernel
theorem d_TC_order_181 : decode prog_1_method_17_code 181 = .ok (.iaload, 1) := by decide +kernel
theorem d_TC_order_182 : decode prog_1_method_17_code 182 = .ok (.goto 5, 3) := by decide +kernel
theorem d_TC_order_185 : decode prog_1_method_17_code 185 = .ok (.bipush (-5), 2) := by decide +kernel
theorem d_TC_order_187 : decode prog_1_method_17_code 187 = .ok (.ireturn, 1) := by decide +kernel
theorem d_Si_lineUpByNumber_0 : decode prog_6_method_9_code 0 = .ok (.iconst 0, 1) := by decide +kernel
theorem d_Si_lineUpByNumber_1 : decode prog_6_method_9_code 1 = .ok (.istore_n 1, 1) := by decide +kernel
theorem d_Si_lineUpByNumber_2 : decode prog_6_method_9_code 2 = .ok (.iload_n 1, 1) := by decide +kernel
theorem d_Si_lineUpByNumber_3 : decode prog_6_method_9_code 3 = .ok (.aload_n 0, 1) := by decide +kernel
theorem d_Si_lineUpByNumber_4 : decode prog_6_method_9_code 4 = .ok (.getfield 50, 3) := by decide +kernel
theorem d_Si_lineUpByNumber_7 : decode prog_6_method_9_code 7 = .ok (.if_icmp .ge 16, 3) := by decide +kernel
theorem d_Si_lineUpByNumber_10 : decode prog_6_method_9_code 10 = .ok (.aload_n 0, 1) := by decide +kernel
theorem d_Si_lineUpByNumber_11 : decode prog_6_method_9_code 11 = .ok (.getfield 27, 3) := by decide +kernel
theorem d_Si_lineUpByNumber_14 : decode prog_6_method_9_code 14 = .ok (.iload_n 1, 1) := by decide +kernel
theorem d_Si_lineUpByNumber_15 : decode prog_6_method_9_code 15 = .ok (.iload_n 1, 1) := by decide +kernel
theorem d_Si_lineUpByNumber_16 : decode prog_6_method_9_code 16 = .ok (.iastore, 1) := by decide +kernel
theorem d_Si_lineUpByNumber_17 : decode prog_6_method_9_code 17 = .ok (.iinc 1 1, 3) := by decide +kernel
theorem d_Si_lineUpByNumber_20 : decode prog_6_method_9_code 20 = .ok (.goto (-18), 3) := by decide +kernel
theorem d_Si_lineUpByNumber_23 : decode prog_6_method_9_code 23 = .ok (.return_, 1) := by decide +kernel
theorem d_Si_lineUpNext_0 : decode prog_6_method_10_code 0 = .ok (.aload_n 0, 1) := by decide +kernel
theorem d_Si_lineUpNext_1 : decode prog_6_method_10_code 1 = .ok (.getfield 50, 3) := by decide +kernel
theorem d_Si_lineUpNext_4 : decode prog_6_method_10_code 4 = .ok (.iconst 2, 1) := by decide +kernel
theorem d_Si_lineUpNext_5 : decode prog_6_method_10_code 5 = .ok (.isub, 1) := by decide +kernel
theorem d_Si_lineUpNext_6 : decode prog_6_method_10_code 6 = .ok (.istore_n 1, 1) := by decide +kernel
theorem d_Si_lineUpNext_7 : decode prog_6_method_10_code 7 = .ok (.iload_n 1, 1) := by decide +kernel
theorem d_Si_lineUpNext_8 : decode prog_6_method_10_code 8 = .ok (.ifCond .lt 26, 3) := by decide +kernel
theorem d_Si_lineUpNext_11 : decode prog_6_method_10_code 11 = .ok (.aload_n 0, 1) := by decide +kernel
theorem d_Si_lineUpNext_12 : decode prog_6_method_10_code 12 = .ok (.getfield 27, 3) := by decide +kernel
theorem d_Si_lineUpNext_15 : decode prog_6_method_10_code 15 = .ok (.iload_n 1, 1) := by decide +kernel
theorem d_Si_lineUpNext_16 : decode prog_6_method_10_code 16 = .ok (.iaload, 1) := by decide +kernel
theorem d_Si_lineUpNext_17 : decode prog_6_method_10_code 17 = .ok (.aload_n 0, 1) := by decide +kernel
theorem d_Si_lineUpNext_18 : decode prog_6_method_10_code 18 = .ok (.getfield 27, 3) := by decide +kernel
theorem d_Si_lineUpNext_21 : decode prog_6_method_10_code 21 = .ok (.iload_n 1, 1) := by decide +kernel
theorem d_Si_lineUpNext_22 : decode prog_6_method_10_code 22 = .ok (.iconst 1, 1) := by decide +kernel
theorem d_Si_lineUpNext_23 : decode prog_6_method_10_code 23 = .ok (.iadd, 1) := by decide +kernel
theorem d_Si_lineUpNext_24 : decode prog_6_method_10_code 24 = .ok (.iaload, 1) := by decide +kernel
theorem d_Si_lineUpNext_25 : decode prog_6_method_10_code 25 = .ok (.if_icmp .le 9, 3) := by decide +kernel
theorem d_Si_lineUpNext_28 : decode prog_6_method_10_code 28 = .ok (.iinc 1 (-1), 3) := by decide +kernel
theorem d_Si_lineUpNext_31 : decode prog_6_method_10_code 31 = .ok (.goto (-24), 3) := by decide +kernel
theorem d_Si_lineUpNext_34 : decode prog_6_method_10_code 34 = .ok (.iload_n 1, 1) := by decide +kernel
theorem d_Si_lineUpNext_35 : decode prog_6_method_10_code 35 = .ok (.ifCond .ge 5, 3) := by decide +kernel
theorem d_Si_lineUpNext_38 : decode prog_6_method_10_code 38 = .ok (.iconst 0, 1) := by decide +kernel
theorem d_Si_lineUpNext_39 : decode prog_6_method_10_code 39 = .ok (.ireturn, 1) := by decide +kernel
theorem d_Si_lineUpNext_40 : decode prog_6_method_10_code 40 = .ok (.aload_n 0, 1) := by decide +kernel
theorem d_Si_lineUpNext_41 : decode prog_6_method_10_code 41 = .ok (.getfield 50, 3) := by decide +kernel
theorem d_Si_lineUpNext_44 : decode prog_6_method_10_code 44 = .ok (.iconst 1, 1) := by decide +kernel
theorem d_Si_lineUpNext_45 : decode prog_6_method_10_code 45 = .ok (.isub, 1) := by decide +kernel
theorem d_Si_lineUpNext_46 : decode prog_6_method_10_code 46 = .ok (.istore_n 2, 1) := by decide +kernel
theorem d_Si_lineUpNext_47 : decode prog_6_method_10_code 47 = .ok (.iload_n 2, 1) := by decide +kernel
theorem d_Si_lineUpNext_48 : decode prog_6_method_10_code 48 = .ok (.iload_n 1, 1) := by decide +kernel
theorem d_Si_lineUpNext_49 : decode prog_6_method_10_code 49 = .ok (.if_icmp .le 24, 3) := by decide +kernel
theorem d_Si_lineUpNext_52 : decode prog_6_method_10_code 52 = .ok (.aload_n 0, 1) := by decide +kernel
theorem d_Si_lineUpNext_53 : decode prog_6_method_10_code 53 = .ok (.getfield 27, 3) := by decide +kernel
theorem d_Si_lineUpNext_56 : decode prog_6_method_10_code 56 = .ok (.iload_n 2, 1) := by decide +kernel
theorem d_Si_lineUpNext_57 : decode prog_6_method_10_code 57 = .ok (.iaload, 1) := by decide +kernel
theorem d_Si_lineUpNext_58 : decode prog_6_method_10_code 58 = .ok (.aload_n 0, 1) := by decide +kernel
theorem d_Si_lineUpNext_59 : decode prog_6_method_10_code 59 = .ok (.getfield 27, 3) := by decide +kernel
theorem d_Si_lineUpNext_62 : decode prog_6_method_10_code 62 = .ok (.iload_n 1, 1) := by decide +kernel
theorem d_Si_lineUpNext_63 : decode prog_6_method_10_code 63 = .ok (.iaload, 1) := by decide +kernel
theorem d_Si_lineUpNext_64 : decode prog_6_method_10_code 64 = .ok (.if_icmp .ge 9, 3) := by decide +kernel
theorem d_Si_lineUpNext_67 : decode prog_6_method_10_code 67 = .ok (.iinc 2 (-1), 3) := by decide +kernel
theorem d_Si_lineUpNext_70 : decode prog_6_method_10_code 70 = .ok (.goto (-23), 3) := by decide +kernel
theorem d_Si_lineUpNext_73 : decode prog_6_method_10_code 73 = .ok (.aload_n 0, 1) := by decide +kernel
theorem d_Si_lineUpNext_74 : decode prog_6_method_10_code 74 = .ok (.iload_n 1, 1) := by decide +kernel
theorem d_Si_lineUpNext_75 : decode prog_6_method_10_code 75 = .ok (.iload_n 2, 1) := by decide +kernel
theorem d_Si_lineUpNext_76 : decode prog_6_method_10_code 76 = .ok (.invokevirtual 72, 3) := by decide +kernel
theorem d_Si_lineUpNext_79 : decode prog_6_method_10_code 79 = .ok (.iload_n 1, 1) := by decide +kernel
theorem d_Si_lineUpNext_80 : decode prog_6_method_10_code 80 = .ok (.iconst 1, 1) := by decide +kernel
theorem d_Si_lineUpNext_81 : decode prog_6_method_10_code 81 = .ok (.iadd, 1) := by decide +kernel
theorem d_Si_lineUpNext_82 : decode prog_6_method_10_code 82 = .ok (.istore_n 3, 1) := by decide +kernel
theorem d_Si_lineUpNext_83 : decode prog_6_method_10_code 83 = .ok (.aload_n 0, 1) := by decide +kernel
theorem d_Si_lineUpNext_84 : decode prog_6_method_10_code 84 = .ok (.getfield 50, 3) := by decide +kernel
theorem d_Si_lineUpNext_87 : decode prog_6_method_10_code 87 = .ok (.iconst 1, 1) := by decide +kernel
theorem d_Si_lineUpNext_88 : decode prog_6_method_10_code 88 = .ok (.isub, 1) := by decide +kernel
theorem d_Si_lineUpNext_89 : decode prog_6_method_10_code 89 = .ok (.istore 4, 2) := by decide +kernel
theorem d_Si_lineUpNext_91 : decode prog_6_method_10_code 91 = .ok (.iload_n 3, 1) := by decide +kernel
theorem d_Si_lineUpNext_92 : decode prog_6_method_10_code 92 = .ok (.iload 4, 2) := by decide +kernel
theorem d_Si_lineUpNext_94 : decode prog_6_method_10_code 94 = .ok (.if_icmp .ge 19, 3) := by decide +kernel
theorem d_Si_lineUpNext_97 : decode prog_6_method_10_code 97 = .ok (.aload_n 0, 1) := by decide +kernel
theorem d_Si_lineUpNext_98 : decode prog_6_method_10_code 98 = .ok (.iload_n 3, 1) := by decide +kernel
theorem d_Si_lineUpNext_99 : decode prog_6_method_10_code 99 = .ok (.iload 4, 2) := by decide +kernel
theorem d_Si_lineUpNext_101 : decode prog_6_method_10_code 101 = .ok (.invokevirtual 72, 3) := by decide +kernel
theorem d_Si_lineUpNext_104 : decode prog_6_method_10_code 104 = .ok (.iinc 3 1, 3) := by decide +kernel
theorem d_Si_lineUpNext_107 : decode prog_6_method_10_code 107 = .ok (.iinc 4 (-1), 3) := by decide +kernel
theorem d_Si_lineUpNext_110 : decode prog_6_method_10_code 110 = .ok (.goto (-19), 3) := by decide +kernel
theorem d_Si_lineUpNext_113 : decode prog_6_method_10_code 113 = .ok (.iconst 1, 1) := by decide +kernel
theorem d_Si_lineUpNext_114 : decode prog_6_method_10_code 114 = .ok (.ireturn, 1) := by decide +kernel
theorem d_Si_exchange_0 : decode prog_6_method_8_code 0 = .ok (.aload_n 0, 1) := by decide +kernel
theorem d_Si_exchange_1 : decode prog_6_method_8_code 1 = .ok (.getfield 27, 3) := by decide +kernel
theorem d_Si_exchange_4 : decode prog_6_method_8_code 4 = .ok (.iload_n 1, 1) := by decide +kernel
theorem d_Si_exchange_5 : decode prog_6_method_8_code 5 = .ok (.iaload, 1) := by decide +kernel
theorem d_Si_exchange_6 : decode prog_6_method_8_code 6 = .ok (.istore_n 3, 1) := by decide +kernel
theorem d_Si_exchange_7 : decode prog_6_method_8_code 7 = .ok (.aload_n 0, 1) := by decide +kernel
theorem d_Si_exchange_8 : decode prog_6_method_8_code 8 = .ok (.getfield 27, 3) := by decide +kernel
theorem d_Si_exchange_11 : decode prog_6_method_8_code 11 = .ok (.iload_n 1, 1) := by decide +kernel
theorem d_Si_exchange_12 : decode prog_6_method_8_code 12 = .ok (.aload_n 0, 1) := by decide +kernel
theorem d_Si_exchange_13 : decode prog_6_method_8_code 13 = .ok (.getfield 27, 3) := by decide +kernel
theorem d_Si_exchange_16 : decode prog_6_method_8_code 16 = .ok (.iload_n 2, 1) := by decide +kernel
theorem d_Si_exchange_17 : decode prog_6_method_8_code 17 = .ok (.iaload, 1) := by decide +kernel
theorem d_Si_exchange_18 : decode prog_6_method_8_code 18 = .ok (.iastore, 1) := by decide +kernel
theorem d_Si_exchange_19 : decode prog_6_method_8_code 19 = .ok (.aload_n 0, 1) := by decide +kernel
theorem d_Si_exchange_20 : decode prog_6_method_8_code 20 = .ok (.getfield 27, 3) := by decide +kernel
theorem d_Si_exchange_23 : decode prog_6_method_8_code 23 = .ok (.iload_n 2, 1) := by decide +kernel
theorem d_Si_exchange_24 : decode prog_6_method_8_code 24 = .ok (.iload_n 3, 1) := by decide +kernel
theorem d_Si_exchange_25 : decode prog_6_method_8_code 25 = .ok (.iastore, 1) := by decide +kernel
theorem d_Si_exchange_26 : decode prog_6_method_8_code 26 = .ok (.return_, 1) := by decide +kernel
theorem d_TC_without_0 : decode prog_1_method_18_code 0 = .ok (.aload_n 0, 1) := by decide +kernel
theorem d_TC_without_1 : decode prog_1_method_18_code 1 = .ok (.iload_n 1, 1) := by decide +kernel
theorem d_TC_without_2 : decode prog_1_method_18_code 2 = .ok (.invokevirtual 97, 3) := by decide +kernel
theorem d_TC_without_5 : decode prog_1_method_18_code 5 = .ok (.ifCond .eq 5, 3) := by decide +kernel
theorem d_TC_without_8 : decode prog_1_method_18_code 8 = .ok (.iconst (-1), 1) := by decide +kernel
theorem d_TC_without_9 : decode prog_1_method_18_code 9 = .ok (.ireturn, 1) := by decide +kernel
theorem d_TC_without_10 : decode prog_1_method_18_code 10 = .ok (.iload_n 2, 1) := by decide +kernel
theorem d_TC_without_11 : decode prog_1_method_18_code 11 = .ok (.invokestatic 222, 3) := by decide +kernel
theorem d_TC_without_14 : decode prog_1_method_18_code 14 = .ok (.ifCond .ne 10, 3) := by decide +kernel
theorem d_TC_without_17 : decode prog_1_method_18_code 17 = .ok (.iload_n 3, 1) := by decide +kernel
theorem d_TC_without_18 : decode prog_1_method_18_code 18 = .ok (.invokestatic 175, 3) := by decide +kernel
theorem d_TC_without_21 : decode prog_1_method_18_code 21 = .ok (.ifCond .eq 6, 3) := by decide +kernel
theorem d_TC_without_24 : decode prog_1_method_18_code 24 = .ok (.bipush (-2), 2) := by decide +kernel
theorem d_TC_without_26 : decode prog_1_method_18_code 26 = .ok (.ireturn, 1) := by decide +kernel
theorem d_TC_without_27 : decode prog_1_method_18_code 27 = .ok (.aload_n 0, 1) := by decide +kernel
theorem d_TC_without_28 : decode prog_1_method_18_code 28 = .ok (.getfield 38, 3) := by decide +kernel
theorem d_TC_without_31 : decode prog_1_method_18_code 31 = .ok (.aload_n 0, 1) := by decide +kernel
theorem d_TC_without_32 : decode prog_1_method_18_code 32 = .ok (.getfield 24, 3) := by decide +kernel
theorem d_TC_without_35 : decode prog_1_method_18_code 35 = .ok (.invokevirtual 185, 3) := by decide +kernel
theorem d_TC_without_38 : decode prog_1_method_18_code 38 = .ok (.aload_n 0, 1) := by decide +kernel
theorem d_TC_without_39 : decode prog_1_method_18_code 39 = .ok (.getfield 38, 3) := by decide +kernel
theorem d_TC_without_42 : decode prog_1_method_18_code 42 = .ok (.getfield 206, 3) := by decide +kernel
theorem d_TC_without_45 : decode prog_1_method_18_code 45 = .ok (.aload_n 0, 1) := by decide +kernel
theorem d_TC_without_46 : decode prog_1_method_18_code 46 = .ok (.getfield 24, 3) := by decide +kernel
theorem d_TC_without_49 : decode prog_1_method_18_code 49 = .ok (.iload_n 1, 1) := by decide +kernel
theorem d_TC_without_50 : decode prog_1_method_18_code 50 = .ok (.invokevirtual 118, 3) := by decide +kernel
theorem d_TC_without_53 : decode prog_1_method_18_code 53 = .ok (.invokevirtual 134, 3) := by decide +kernel
theorem d_TC_without_56 : decode prog_1_method_18_code 56 = .ok (.aload_n 0, 1) := by decide +kernel
theorem d_TC_without_57 : decode prog_1_method_18_code 57 = .ok (.getfield 38, 3) := by decide +kernel
theorem d_TC_without_60 : decode prog_1_method_18_code 60 = .ok (.iload_n 2, 1) := by decide +kernel
theorem d_TC_without_61 : decode prog_1_method_18_code 61 = .ok (.iload_n 3, 1) := by decide +kernel
theorem d_TC_without_62 : decode prog_1_method_18_code 62 = .ok (.invokevirtual 189, 3) := by decide +kernel
theorem d_TC_without_65 : decode prog_1_method_18_code 65 = .ok (.aload_n 0, 1) := by decide +kernel
theorem d_TC_without_66 : decode prog_1_method_18_code 66 = .ok (.getfield 38, 3) := by decide +kernel
theorem d_TC_without_69 : decode prog_1_method_18_code 69 = .ok (.getfield 192, 3) := by decide +kernel
theorem d_TC_without_72 : decode prog_1_method_18_code 72 = .ok (.ireturn, 1) := by decide +kernel
theorem d_TC_isNoCount_0 : decode prog_1_method_45_code 0 = .ok (.iload_n 0, 1) := by decide +kernel
theorem d_TC_isNoCount_1 : decode prog_1_method_45_code 1 = .ok (.iconst 1, 1) := by decide +kernel
theorem d_TC_isNoCount_2 : decode prog_1_method_45_code 2 = .ok (.if_icmp .lt 9, 3) := by decide +kernel
theorem d_TC_isNoCount_5 : decode prog_1_method_45_code 5 = .ok (.iload_n 0, 1) := by decide +kernel
theorem d_TC_isNoCount_6 : decode prog_1_method_45_code 6 = .ok (.bipush 30, 2) := by decide +kernel
theorem d_TC_isNoCount_8 : decode prog_1_method_45_code 8 = .ok (.if_icmp .le 7, 3) := by decide +kernel
theorem d_TC_isNoCount_11 : decode prog_1_method_45_code 11 = .ok (.iconst 1, 1) := by decide +kernel
theorem d_TC_isNoCount_12 : decode prog_1_method_45_code 12 = .ok (.goto 4, 3) := by decide +kernel
theorem d_TC_isNoCount_15 : decode prog_1_method_45_code 15 = .ok (.iconst 0, 1) := by decide +kernel
theorem d_TC_isNoCount_16 : decode prog_1_method_45_code 16 = .ok (.ireturn, 1) := by decide +kernel
theorem d_TC_pulley_0 : decode prog_1_method_19_code 0 = .ok (.iload_n 1, 1) := by decide +kernel
theorem d_TC_pulley_1 : decode prog_1_method_19_code 1 = .ok (.invokestatic 222, 3) := by decide +kernel
theorem d_TC_pulley_4 : decode prog_1_method_19_code 4 = .ok (.ifCond .ne 10, 3) := by decide +kernel
theorem d_TC_pulley_7 : decode prog_1_method_19_code 7 = .ok (.iload_n 2, 1) := by decide +kernel
theorem d_TC_pulley_8 : decode prog_1_method_19_code 8 = .ok (.invokestatic 175, 3) := by decide +kernel
theorem d_TC_pulley_11 : decode prog_1_method_19_code 11 = .ok (.ifCond .eq 6, 3) := by decide +kernel
theorem d_TC_pulley_14 : decode prog_1_method_19_code 14 = .ok (.ldc 225, 2) := by decide +kernel
theorem d_TC_pulley_16 : decode prog_1_method_19_code 16 = .ok (.ireturn, 1) := by decide +kernel
theorem d_TC_pulley_17 : decode prog_1_method_19_code 17 = .ok (.aload_n 0, 1) := by decide +kernel
theorem d_TC_pulley_18 : decode prog_1_method_19_code 18 = .ok (.getfield 38, 3) := by decide +kernel
theorem d_TC_pulley_21 : decode prog_1_method_19_code 21 = .ok (.aload_n 0, 1) := by decide +kernel
theorem d_TC_pulley_22 : decode prog_1_method_19_code 22 = .ok (.getfield 24, 3) := by decide +kernel
theorem d_TC_pulley_25 : decode prog_1_method_19_code 25 = .ok (.invokevirtual 185, 3) := by decide +kernel
theorem d_TC_pulley_28 : decode prog_1_method_19_code 28 = .ok (.aload_n 0, 1) := by decide +kernel
theorem d_TC_pulley_29 : decode prog_1_method_19_code 29 = .ok (.iload_n 1, 1) := by decide +kernel
theorem d_TC_pulley_30 : decode prog_1_method_19_code 30 = .ok (.iload_n 2, 1) := by decide +kernel
theorem d_TC_pulley_31 : decode prog_1_method_19_code 31 = .ok (.invokevirtual 226, 3) := by decide +kernel
theorem d_TC_pulley_34 : decode prog_1_method_19_code 34 = .ok (.ireturn, 1) := by decide +kernel
theorem d_TC_pulleyLoses_0 : decode prog_1_method_20_code 0 = .ok (.aload_n 0, 1) := by decide +kernel
theorem d_TC_pulleyLoses_1 : decode prog_1_method_20_code 1 = .ok (.getfield 38, 3) := by decide +kernel
theorem d_TC_pulleyLoses_4 : decode prog_1_method_20_code 4 = .ok (.iload_n 1, 1) := by decide +kernel
theorem d_TC_pulleyLoses_5 : decode prog_1_method_20_code 5 = .ok (.iload_n 2, 1) := by decide +kernel
theorem d_TC_pulleyLoses_6 : decode prog_1_method_20_code 6 = .ok (.invokevirtual 189, 3) := by decide +kernel
theorem d_TC_pulleyLoses_9 : decode prog_1_method_20_code 9 = .ok (.aload_n 0, 1) := by decide +kernel
theorem d_TC_pulleyLoses_10 : decode prog_1_method_20_code 10 = .ok (.getfield 38, 3) := by decide +kernel
theorem d_TC_pulleyLoses_13 : decode prog_1_method_20_code 13 = .ok (.getfield 229, 3) := by decide +kernel
theorem d_TC_pulleyLoses_16 : decode prog_1_method_20_code 16 = .ok (.ifCond .eq 6, 3) := by decide +kernel
theorem d_TC_pulleyLoses_19 : decode prog_1_method_20_code 19 = .ok (.ldc 232, 2) := by decide +kernel
theorem d_TC_pulleyLoses_21 : decode prog_1_method_20_code 21 = .ok (.ireturn, 1) := by decide +kernel
theorem d_TC_pulleyLoses_22 : decode prog_1_method_20_code 22 = .ok (.iload_n 1, 1) := by decide +kernel
theorem d_TC_pulleyLoses_23 : decode prog_1_method_20_code 23 = .ok (.aload_n 0, 1) := by decide +kernel
theorem d_TC_pulleyLoses_24 : decode prog_1_method_20_code 24 = .ok (.getfield 24, 3) := by decide +kernel
theorem d_TC_pulleyLoses_27 : decode prog_1_method_20_code 27 = .ok (.getfield 150, 3) := by decide +kernel
theorem d_TC_pulleyLoses_30 : decode prog_1_method_20_code 30 = .ok (.getfield 169, 3) := by decide +kernel
theorem d_TC_pulleyLoses_33 : decode prog_1_method_20_code 33 = .ok (.imul, 1) := by decide +kernel
theorem d_TC_pulleyLoses_34 : decode prog_1_method_20_code 34 = .ok (.aload_n 0, 1) := by decide +kernel
theorem d_TC_pulleyLoses_35 : decode prog_1_method_20_code 35 = .ok (.getfield 24, 3) := by decide +kernel
theorem d_TC_pulleyLoses_38 : decode prog_1_method_20_code 38 = .ok (.getfield 150, 3) := by decide +kernel
theorem d_TC_pulleyLoses_41 : decode prog_1_method_20_code 41 = .ok (.getfield 163, 3) := by decide +kernel
theorem d_TC_pulleyLoses_44 : decode prog_1_method_20_code 44 = .ok (.aload_n 0, 1) := by decide +kernel
theorem d_TC_pulleyLoses_45 : decode prog_1_method_20_code 45 = .ok (.getfield 24, 3) := by decide +kernel
theorem d_TC_pulleyLoses_48 : decode prog_1_method_20_code 48 = .ok (.getfield 67, 3) := by decide +kernel
theorem d_TC_pulleyLoses_51 : decode prog_1_method_20_code 51 = .ok (.imul, 1) := by decide +kernel
theorem d_TC_pulleyLoses_52 : decode prog_1_method_20_code 52 = .ok (.iadd, 1) := by decide +kernel
theorem d_TC_pulleyLoses_53 : decode prog_1_method_20_code 53 = .ok (.aload_n 0, 1) := by decide +kernel
theorem d_TC_pulleyLoses_54 : decode prog_1_method_20_code 54 = .ok (.getfield 38, 3) := by decide +kernel
theorem d_TC_pulleyLoses_57 : decode prog_1_method_20_code 57 = .ok (.getfield 193, 3) := by decide +kernel
theorem d_TC_pulleyLoses_60 : decode prog_1_method_20_code 60 = .ok (.isub, 1) := by decide +kernel
theorem d_TC_pulleyLoses_61 : decode prog_1_method_20_code 61 = .ok (.ireturn, 1) := by decide +kernel
theorem d_TC_from_0 : decode prog_1_method_21_code 0 = .ok (.iload_n 1, 1) := by decide +kernel
theorem d_TC_from_1 : decode prog_1_method_21_code 1 = .ok (.invokestatic 175, 3) := by decide +kernel
theorem d_TC_from_4 : decode prog_1_method_21_code 4 = .ok (.ifCond .eq 6, 3) := by decide +kernel
theorem d_TC_from_7 : decode prog_1_method_21_code 7 = .ok (.bipush (-2), 2) := by decide +kernel
theorem d_TC_from_9 : decode prog_1_method_21_code 9 = .ok (.ireturn, 1) := by decide +kernel
theorem d_TC_from_10 : decode prog_1_method_21_code 10 = .ok (.aload_n 0, 1) := by decide +kernel
theorem d_TC_from_11 : decode prog_1_method_21_code 11 = .ok (.getfield 38, 3) := by decide +kernel
theorem d_TC_from_14 : decode prog_1_method_21_code 14 = .ok (.aload_n 0, 1) := by decide +kernel
theorem d_TC_from_15 : decode prog_1_method_21_code 15 = .ok (.getfield 24, 3) := by decide +kernel
theorem d_TC_from_18 : decode prog_1_method_21_code 18 = .ok (.invokevirtual 185, 3) := by decide +kernel
theorem d_TC_from_21 : decode prog_1_method_21_code 21 = .ok (.iconst 1, 1) := by decide +kernel
theorem d_TC_from_22 : decode prog_1_method_21_code 22 = .ok (.istore_n 2, 1) := by decide +kernel
theorem d_TC_from_23 : decode prog_1_method_21_code 23 = .ok (.iload_n 2, 1) := by decide +kernel
theorem d_TC_from_24 : decode prog_1_method_21_code 24 = .ok (.bipush 30, 2) := by decide +kernel
theorem d_TC_from_26 : decode prog_1_method_21_code 26 = .ok (.if_icmp .gt 20, 3) := by decide +kernel
theorem d_TC_from_29 : decode prog_1_method_21_code 29 = .ok (.aload_n 0, 1) := by decide +kernel
theorem d_TC_from_30 : decode prog_1_method_21_code 30 = .ok (.iload_n 2, 1) := by decide +kernel
theorem d_TC_from_31 : decode prog_1_method_21_code 31 = .ok (.iload_n 1, 1) := by decide +kernel
theorem d_TC_from_32 : decode prog_1_method_21_code 32 = .ok (.invokevirtual 226, 3) := by decide +kernel
theorem d_TC_from_35 : decode prog_1_method_21_code 35 = .ok (.ifCond .le 5, 3) := by decide +kernel
theorem d_TC_from_38 : decode prog_1_method_21_code 38 = .ok (.iload_n 2, 1) := by decide +kernel
theorem d_TC_from_39 : decode prog_1_method_21_code 39 = .ok (.ireturn, 1) := by decide +kernel
theorem d_TC_from_40 : decode prog_1_method_21_code 40 = .ok (.iinc 2 1, 3) := by decide +kernel
theorem d_TC_from_43 : decode prog_1_method_21_code 43 = .ok (.goto (-20), 3) := by decide +kernel
theorem d_TC_from_46 : decode prog_1_method_21_code 46 = .ok (.bipush (-5), 2) := by decide +kernel
theorem d_TC_from_48 : decode prog_1_method_21_code 48 = .ok (.ireturn, 1) := by decide +kernel
theorem d_TC_rested_0 : decode prog_1_method_22_code 0 = .ok (.iload_n 1, 1) := by decide +kernel
theorem d_TC_rested_1 : decode prog_1_method_22_code 1 = .ok (.iconst 1, 1) := by decide +kernel
theorem d_TC_rested_2 : decode prog_1_method_22_code 2 = .ok (.if_icmp .lt 27, 3) := by decide +kernel
theorem d_TC_rested_5 : decode prog_1_method_22_code 5 = .ok (.iload_n 1, 1) := by decide +kernel
theorem d_TC_rested_6 : decode prog_1_method_22_code 6 = .ok (.bipush 20, 2) := by decide +kernel
theorem d_TC_rested_8 : decode prog_1_method_22_code 8 = .ok (.if_icmp .gt 21, 3) := by decide +kernel
theorem d_TC_rested_11 : decode prog_1_method_22_code 11 = .ok (.iload_n 2, 1) := by decide +kernel
theorem d_TC_rested_12 : decode prog_1_method_22_code 12 = .ok (.invokestatic 175, 3) := by decide +kernel
theorem d_TC_rested_15 : decode prog_1_method_22_code 15 = .ok (.ifCond .ne 14, 3) := by decide +kernel
theorem d_TC_rested_18 : decode prog_1_method_22_code 18 = .ok (.iload_n 3, 1) := by decide +kernel
theorem d_TC_rested_19 : decode prog_1_method_22_code 19 = .ok (.iconst 1, 1) := by decide +kernel
theorem d_TC_rested_20 : decode prog_1_method_22_code 20 = .ok (.if_icmp .lt 9, 3) := by decide +kernel
theorem d_TC_rested_23 : decode prog_1_method_22_code 23 = .ok (.iload_n 3, 1) := by decide +kernel
theorem d_TC_rested_24 : decode prog_1_method_22_code 24 = .ok (.bipush 60, 2) := by decide +kernel
theorem d_TC_rested_26 : decode prog_1_method_22_code 26 = .ok (.if_icmp .le 6, 3) := by decide +kernel
theorem d_TC_rested_29 : decode prog_1_method_22_code 29 = .ok (.bipush (-2), 2) := by decide +kernel
theorem d_TC_rested_31 : decode prog_1_method_22_code 31 = .ok (.ireturn, 1) := by decide +kernel
theorem d_TC_rested_32 : decode prog_1_method_22_code 32 = .ok (.aload_n 0, 1) := by decide +kernel
theorem d_TC_rested_33 : decode prog_1_method_22_code 33 = .ok (.getfield 38, 3) := by decide +kernel
theorem d_TC_rested_36 : decode prog_1_method_22_code 36 = .ok (.aload_n 0, 1) := by decide +kernel
theorem d_TC_rested_37 : decode prog_1_method_22_code 37 = .ok (.getfield 24, 3) := by decide +kernel
theorem d_TC_rested_40 : decode prog_1_method_22_code 40 = .ok (.invokevirtual 185, 3) := by decide +kernel
theorem d_TC_rested_43 : decode prog_1_method_22_code 43 = .ok (.bipush 20, 2) := by decide +kernel
theorem d_TC_rested_45 : decode prog_1_method_22_code 45 = .ok (.istore 4, 2) := by decide +kernel
theorem d_TC_rested_47 : decode prog_1_method_22_code 47 = .ok (.iload 4, 2) := by decide +kernel
theorem d_TC_rested_49 : decode prog_1_method_22_code 49 = .ok (.iconst 1, 1) := by decide +kernel
theorem d_TC_rested_50 : decode prog_1_method_22_code 50 = .ok (.if_icmp .lt 27, 3) := by decide +kernel
theorem d_TC_rested_53 : decode prog_1_method_22_code 53 = .ok (.aload_n 0, 1) := by decide +kernel
theorem d_TC_rested_54 : decode prog_1_method_22_code 54 = .ok (.getfield 38, 3) := by decide +kernel
theorem d_TC_rested_57 : decode prog_1_method_22_code 57 = .ok (.iload_n 1, 1) := by decide +kernel
theorem d_TC_rested_58 : decode prog_1_method_22_code 58 = .ok (.iload_n 2, 1) := by decide +kernel
theorem d_TC_rested_59 : decode prog_1_method_22_code 59 = .ok (.iload 4, 2) := by decide +kernel
theorem d_TC_rested_61 : decode prog_1_method_22_code 61 = .ok (.iload_n 3, 1) := by decide +kernel
theorem d_TC_rested_62 : decode prog_1_method_22_code 62 = .ok (.invokevirtual 233, 3) := by decide +kernel
theorem d_TC_rested_65 : decode prog_1_method_22_code 65 = .ok (.ifCond .eq 6, 3) := by decide +kernel
theorem d_TC_rested_68 : decode prog_1_method_22_code 68 = .ok (.iload 4, 2) := by decide +kernel
theorem d_TC_rested_70 : decode prog_1_method_22_code 70 = .ok (.ireturn, 1) := by decide +kernel
theorem d_TC_rested_71 : decode prog_1_method_22_code 71 = .ok (.iinc 4 (-1), 3) := by decide +kernel
theorem d_TC_rested_74 : decode prog_1_method_22_code 74 = .ok (.goto (-27), 3) := by decide +kernel
theorem d_TC_rested_77 : decode prog_1_method_22_code 77 = .ok (.bipush (-5), 2) := by decide +kernel
theorem d_TC_rested_79 : decode prog_1_method_22_code 79 = .ok (.ireturn, 1) := by decide +kernel
theorem d_TC_change_0 : decode prog_1_method_23_code 0 = .ok (.iload_n 1, 1) := by decide +kernel
theorem d_TC_change_1 : decode prog_1_method_23_code 1 = .ok (.invokestatic 222, 3) := by decide +kernel
theorem d_TC_change_4 : decode prog_1_method_23_code 4 = .ok (.ifCond .ne 10, 3) := by decide +kernel
theorem d_TC_change_7 : decode prog_1_method_23_code 7 = .ok (.iload_n 2, 1) := by decide +kernel
theorem d_TC_change_8 : decode prog_1_method_23_code 8 = .ok (.invokestatic 175, 3) := by decide +kernel
theorem d_TC_change_11 : decode prog_1_method_23_code 11 = .ok (.ifCond .eq 6, 3) := by decide +kernel
theorem d_TC_change_14 : decode prog_1_method_23_code 14 = .ok (.bipush (-2), 2) := by decide +kernel
theorem d_TC_change_16 : decode prog_1_method_23_code 16 = .ok (.ireturn, 1) := by decide +kernel
theorem d_TC_change_17 : decode prog_1_method_23_code 17 = .ok (.aload_n 0, 1) := by decide +kernel
theorem d_TC_change_18 : decode prog_1_method_23_code 18 = .ok (.getfield 38, 3) := by decide +kernel
theorem d_TC_change_21 : decode prog_1_method_23_code 21 = .ok (.aload_n 0, 1) := by decide +kernel
theorem d_TC_change_22 : decode prog_1_method_23_code 22 = .ok (.getfield 24, 3) := by decide +kernel
theorem d_TC_change_25 : decode prog_1_method_23_code 25 = .ok (.invokevirtual 185, 3) := by decide +kernel
theorem d_TC_change_28 : decode prog_1_method_23_code 28 = .ok (.aload_n 0, 1) := by decide +kernel
theorem d_TC_change_29 : decode prog_1_method_23_code 29 = .ok (.getfield 38, 3) := by decide +kernel
theorem d_TC_change_32 : decode prog_1_method_23_code 32 = .ok (.iload_n 1, 1) := by decide +kernel
theorem d_TC_change_33 : decode prog_1_method_23_code 33 = .ok (.iload_n 2, 1) := by decide +kernel
theorem d_TC_change_34 : decode prog_1_method_23_code 34 = .ok (.invokevirtual 189, 3) := by decide +kernel
theorem d_TC_change_37 : decode prog_1_method_23_code 37 = .ok (.aload_n 0, 1) := by decide +kernel
theorem d_TC_change_38 : decode prog_1_method_23_code 38 = .ok (.getfield 38, 3) := by decide +kernel
theorem d_TC_change_41 : decode prog_1_method_23_code 41 = .ok (.getfield 192, 3) := by decide +kernel
theorem d_TC_change_44 : decode prog_1_method_23_code 44 = .ok (.istore_n 3, 1) := by decide +kernel
theorem d_TC_change_45 : decode prog_1_method_23_code 45 = .ok (.bipush (-5), 2) := by decide +kernel
theorem d_TC_change_47 : decode prog_1_method_23_code 47 = .ok (.istore 4, 2) := by decide +kernel
theorem d_TC_change_49 : decode prog_1_method_23_code 49 = .ok (.iconst 0, 1) := by decide +kernel
theorem d_TC_change_50 : decode prog_1_method_23_code 50 = .ok (.istore 5, 2) := by decide +kernel
theorem d_TC_change_52 : decode prog_1_method_23_code 52 = .ok (.iload 5, 2) := by decide +kernel
theorem d_TC_change_54 : decode prog_1_method_23_code 54 = .ok (.aload_n 0, 1) := by decide +kernel
theorem d_TC_change_55 : decode prog_1_method_23_code 55 = .ok (.getfield 24, 3) := by decide +kernel
theorem d_TC_change_58 : decode prog_1_method_23_code 58 = .ok (.getfield 131, 3) := by decide +kernel
theorem d_TC_change_61 : decode prog_1_method_23_code 61 = .ok (.if_icmp .ge 99, 3) := by decide +kernel
theorem d_TC_change_64 : decode prog_1_method_23_code 64 = .ok (.iload 5, 2) := by decide +kernel
theorem d_TC_change_66 : decode prog_1_method_23_code 66 = .ok (.iconst 1, 1) := by decide +kernel
theorem d_TC_change_67 : decode prog_1_method_23_code 67 = .ok (.iadd, 1) := by decide +kernel
theorem d_TC_change_68 : decode prog_1_method_23_code 68 = .ok (.istore 6, 2) := by decide +kernel
theorem d_TC_change_70 : decode prog_1_method_23_code 70 = .ok (.iload 6, 2) := by decide +kernel
theorem d_TC_change_72 : decode prog_1_method_23_code 72 = .ok (.aload_n 0, 1) := by decide +kernel
theorem d_TC_change_73 : decode prog_1_method_23_code 73 = .ok (.getfield 24, 3) := by decide +kernel
theorem d_TC_change_76 : decode prog_1_method_23_code 76 = .ok (.getfield 131, 3) := by decide +kernel
theorem d_TC_change_79 : decode prog_1_method_23_code 79 = .ok (.if_icmp .ge 75, 3) := by decide +kernel
theorem d_TC_change_82 : decode prog_1_method_23_code 82 = .ok (.aload_n 0, 1) := by decide +kernel
theorem d_TC_change_83 : decode prog_1_method_23_code 83 = .ok (.getfield 38, 3) := by decide +kernel
theorem d_TC_change_86 : decode prog_1_method_23_code 86 = .ok (.getfield 206, 3) := by decide +kernel
theorem d_TC_change_89 : decode prog_1_method_23_code 89 = .ok (.iload 5, 2) := by decide +kernel
theorem d_TC_change_91 : decode prog_1_method_23_code 91 = .ok (.iload 6, 2) := by decide +kernel
theorem d_TC_change_93 : decode prog_1_method_23_code 93 = .ok (.invokevirtual 237, 3) := by decide +kernel
theorem d_TC_change_96 : decode prog_1_method_23_code 96 = .ok (.aload_n 0, 1) := by decide +kernel
theorem d_TC_change_97 : decode prog_1_method_23_code 97 = .ok (.getfield 38, 3) := by decide +kernel
theorem d_TC_change_100 : decode prog_1_method_23_code 100 = .ok (.iload_n 1, 1) := by decide +kernel
theorem d_TC_change_101 : decode prog_1_method_23_code 101 = .ok (.iload_n 2, 1) := by decide +kernel
theorem d_TC_change_102 : decode prog_1_method_23_code 102 = .ok (.invokevirtual 189, 3) := by decide +kernel
theorem d_TC_change_105 : decode prog_1_method_23_code 105 = .ok (.aload_n 0, 1) := by decide +kernel
theorem d_TC_change_106 : decode prog_1_method_23_code 106 = .ok (.getfield 38, 3) := by decide +kernel
theorem d_TC_change_109 : decode prog_1_method_23_code 109 = .ok (.getfield 206, 3) := by decide +kernel
theorem d_TC_change_112 : decode prog_1_method_23_code 112 = .ok (.iload 5, 2) := by decide +kernel
theorem d_TC_change_114 : decode prog_1_method_23_code 114 = .ok (.iload 6, 2) := by decide +kernel
theorem d_TC_change_116 : decode prog_1_method_23_code 116 = .ok (.invokevirtual 237, 3) := by decide +kernel
theorem d_TC_change_119 : decode prog_1_method_23_code 119 = .ok (.aload_n 0, 1) := by decide +kernel
theorem d_TC_change_120 : decode prog_1_method_23_code 120 = .ok (.getfield 38, 3) := by decide +kernel
theorem d_TC_change_123 : decode prog_1_method_23_code 123 = .ok (.getfield 192, 3) := by decide +kernel
theorem d_TC_change_126 : decode prog_1_method_23_code 126 = .ok (.iload_n 3, 1) := by decide +kernel
theorem d_TC_change_127 : decode prog_1_method_23_code 127 = .ok (.if_icmp .le 21, 3) := by decide +kernel
theorem d_TC_change_130 : decode prog_1_method_23_code 130 = .ok (.aload_n 0, 1) := by decide +kernel
theorem d_TC_change_131 : decode prog_1_method_23_code 131 = .ok (.getfield 38, 3) := by decide +kernel
theorem d_TC_change_134 : decode prog_1_method_23_code 134 = .ok (.getfield 192, 3) := by decide +kernel
theorem d_TC_change_137 : decode prog_1_method_23_code 137 = .ok (.istore_n 3, 1) := by decide +kernel
theorem d_TC_change_138 : decode prog_1_method_23_code 138 = .ok (.bipush 10, 2) := by decide +kernel
theorem d_TC_change_140 : decode prog_1_method_23_code 140 = .ok (.iload 5, 2) := by decide +kernel
theorem d_TC_change_142 : decode prog_1_method_23_code 142 = .ok (.imul, 1) := by decide +kernel
theorem d_TC_change_143 : decode prog_1_method_23_code 143 = .ok (.iload 6, 2) := by decide +kernel
theorem d_TC_change_145 : decode prog_1_method_23_code 145 = .ok (.iadd, 1) := by decide +kernel
theorem d_TC_change_146 : decode prog_1_method_23_code 146 = .ok (.istore 4, 2) := by decide +kernel
theorem d_TC_change_148 : decode prog_1_method_23_code 148 = .ok (.iinc 6 1, 3) := by decide +kernel
theorem d_TC_change_151 : decode prog_1_method_23_code 151 = .ok (.goto (-81), 3) := by decide +kernel
theorem d_TC_change_154 : decode prog_1_method_23_code 154 = .ok (.iinc 5 1, 3) := by decide +kernel
theorem d_TC_change_157 : decode prog_1_method_23_code 157 = .ok (.goto (-105), 3) := by decide +kernel
theorem d_TC_change_160 : decode prog_1_method_23_code 160 = .ok (.iload 4, 2) := by decide +kernel
theorem d_TC_change_162 : decode prog_1_method_23_code 162 = .ok (.ireturn, 1) := by decide +kernel
theorem d_TC_see_0 : decode prog_1_method_24_code 0 = .ok (.iload_n 1, 1) := by decide +kernel
theorem d_TC_see_1 : decode prog_1_method_24_code 1 = .ok (.iconst (-1), 1) := by decide +kernel
theorem d_TC_see_2 : decode prog_1_method_24_code 2 = .ok (.if_icmp .lt 9, 3) := by decide +kernel
theorem d_TC_see_5 : decode prog_1_method_24_code 5 = .ok (.iload_n 1, 1) := by decide +kernel
theorem d_TC_see_6 : decode prog_1_method_24_code 6 = .ok (.bipush 20, 2) := by decide +kernel
theorem d_TC_see_8 : decode prog_1_method_24_code 8 = .ok (.if_icmp .lt 6, 3) := by decide +kernel
theorem d_TC_see_11 : decode prog_1_method_24_code 11 = .ok (.bipush (-2), 2) := by decide +kernel
theorem d_TC_see_13 : decode prog_1_method_24_code 13 = .ok (.ireturn, 1) := by decide +kernel
theorem d_TC_see_14 : decode prog_1_method_24_code 14 = .ok (.iload_n 1, 1) := by decide +kernel
theorem d_TC_see_15 : decode prog_1_method_24_code 15 = .ok (.iconst (-1), 1) := by decide +kernel
theorem d_TC_see_16 : decode prog_1_method_24_code 16 = .ok (.if_icmp .ne 13, 3) := by decide +kernel
theorem d_TC_see_19 : decode prog_1_method_24_code 19 = .ok (.aload_n 0, 1) := by decide +kernel
theorem d_TC_see_20 : decode prog_1_method_24_code 20 = .ok (.getfield 24, 3) := by decide +kernel
theorem d_TC_see_23 : decode prog_1_method_24_code 23 = .ok (.iconst 0, 1) := by decide +kernel
theorem d_TC_see_24 : decode prog_1_method_24_code 24 = .ok (.putfield 240, 3) := by decide +kernel
theorem d_TC_see_27 : decode prog_1_method_24_code 27 = .ok (.iconst 0, 1) := by decide +kernel
theorem d_TC_see_28 : decode prog_1_method_24_code 28 = .ok (.ireturn, 1) := by decide +kernel
theorem d_TC_see_29 : decode prog_1_method_24_code 29 = .ok (.aload_n 0, 1) := by decide +kernel
theorem d_TC_see_30 : decode prog_1_method_24_code 30 = .ok (.getfield 24, 3) := by decide +kernel
theorem d_TC_see_33 : decode prog_1_method_24_code 33 = .ok (.getfield 240, 3) := by decide +kernel
theorem d_TC_see_36 : decode prog_1_method_24_code 36 = .ok (.bipush 6, 2) := by decide +kernel
theorem d_TC_see_38 : decode prog_1_method_24_code 38 = .ok (.if_icmp .lt 6, 3) := by decide +kernel
theorem d_TC_see_41 : decode prog_1_method_24_code 41 = .ok (.bipush (-4), 2) := by decide +kernel
theorem d_TC_see_43 : decode prog_1_method_24_code 43 = .ok (.ireturn, 1) := by decide +kernel
theorem d_TC_see_44 : decode prog_1_method_24_code 44 = .ok (.aload_n 0, 1) := by decide +kernel
theorem d_TC_see_45 : decode prog_1_method_24_code 45 = .ok (.getfield 24, 3) := by decide +kernel
theorem d_TC_see_48 : decode prog_1_method_24_code 48 = .ok (.getfield 243, 3) := by decide +kernel
theorem d_TC_see_51 : decode prog_1_method_24_code 51 = .ok (.aload_n 0, 1) := by decide +kernel
theorem d_TC_see_52 : decode prog_1_method_24_code 52 = .ok (.getfield 24, 3) := by decide +kernel
theorem d_TC_see_55 : decode prog_1_method_24_code 55 = .ok (.getfield 240, 3) := by decide +kernel
theorem d_TC_see_58 : decode prog_1_method_24_code 58 = .ok (.iload_n 1, 1) := by decide +kernel
theorem d_TC_see_59 : decode prog_1_method_24_code 59 = .ok (.iastore, 1) := by decide +kernel
theorem d_TC_see_60 : decode prog_1_method_24_code 60 = .ok (.aload_n 0, 1) := by decide +kernel
theorem d_TC_see_61 : decode prog_1_method_24_code 61 = .ok (.getfield 24, 3) := by decide +kernel
theorem d_TC_see_64 : decode prog_1_method_24_code 64 = .ok (.dup, 1) := by decide +kernel
theorem d_TC_see_65 : decode prog_1_method_24_code 65 = .ok (.getfield 240, 3) := by decide +kernel
theorem d_TC_see_68 : decode prog_1_method_24_code 68 = .ok (.iconst 1, 1) := by decide +kernel
theorem d_TC_see_69 : decode prog_1_method_24_code 69 = .ok (.iadd, 1) := by decide +kernel
theorem d_TC_see_70 : decode prog_1_method_24_code 70 = .ok (.putfield 240, 3) := by decide +kernel
theorem d_TC_see_73 : decode prog_1_method_24_code 73 = .ok (.aload_n 0, 1) := by decide +kernel
theorem d_TC_see_74 : decode prog_1_method_24_code 74 = .ok (.getfield 24, 3) := by decide +kernel
theorem d_TC_see_77 : decode prog_1_method_24_code 77 = .ok (.getfield 240, 3) := by decide +kernel
theorem d_TC_see_80 : decode prog_1_method_24_code 80 = .ok (.ireturn, 1) := by decide +kernel
theorem d_TC_who_0 : decode prog_1_method_25_code 0 = .ok (.iload_n 1, 1) := by decide +kernel
theorem d_TC_who_1 : decode prog_1_method_25_code 1 = .ok (.invokestatic 175, 3) := by decide +kernel
theorem d_TC_who_4 : decode prog_1_method_25_code 4 = .ok (.ifCond .eq 6, 3) := by decide +kernel
theorem d_TC_who_7 : decode prog_1_method_25_code 7 = .ok (.bipush (-2), 2) := by decide +kernel
theorem d_TC_who_9 : decode prog_1_method_25_code 9 = .ok (.ireturn, 1) := by decide +kernel
theorem d_TC_who_10 : decode prog_1_method_25_code 10 = .ok (.aload_n 0, 1) := by decide +kernel
theorem d_TC_who_11 : decode prog_1_method_25_code 11 = .ok (.getfield 24, 3) := by decide +kernel
theorem d_TC_who_14 : decode prog_1_method_25_code 14 = .ok (.invokevirtual 246, 3) := by decide +kernel
theorem d_TC_who_17 : decode prog_1_method_25_code 17 = .ok (.istore_n 2, 1) := by decide +kernel
theorem d_TC_who_18 : decode prog_1_method_25_code 18 = .ok (.iconst 0, 1) := by decide +kernel
theorem d_TC_who_19 : decode prog_1_method_25_code 19 = .ok (.istore_n 3, 1) := by decide +kernel
theorem d_TC_who_20 : decode prog_1_method_25_code 20 = .ok (.iconst 0, 1) := by decide +kernel
theorem d_TC_who_21 : decode prog_1_method_25_code 21 = .ok (.istore 4, 2) := by decide +kernel
theorem d_TC_who_23 : decode prog_1_method_25_code 23 = .ok (.iload 4, 2) := by decide +kernel
theorem d_TC_who_25 : decode prog_1_method_25_code 25 = .ok (.aload_n 0, 1) := by decide +kernel
theorem d_TC_who_26 : decode prog_1_method_25_code 26 = .ok (.getfield 24, 3) := by decide +kernel
theorem d_TC_who_29 : decode prog_1_method_25_code 29 = .ok (.getfield 67, 3) := by decide +kernel
theorem d_TC_who_32 : decode prog_1_method_25_code 32 = .ok (.if_icmp .ge 43, 3) := by decide +kernel
theorem d_TC_who_35 : decode prog_1_method_25_code 35 = .ok (.aload_n 0, 1) := by decide +kernel
theorem d_TC_who_36 : decode prog_1_method_25_code 36 = .ok (.iload 4, 2) := by decide +kernel
theorem d_TC_who_38 : decode prog_1_method_25_code 38 = .ok (.invokevirtual 249, 3) := by decide +kernel
theorem d_TC_who_41 : decode prog_1_method_25_code 41 = .ok (.aload_n 0, 1) := by decide +kernel
theorem d_TC_who_42 : decode prog_1_method_25_code 42 = .ok (.getfield 38, 3) := by decide +kernel
theorem d_TC_who_45 : decode prog_1_method_25_code 45 = .ok (.bipush 20, 2) := by decide +kernel
theorem d_TC_who_47 : decode prog_1_method_25_code 47 = .ok (.iload_n 1, 1) := by decide +kernel
theorem d_TC_who_48 : decode prog_1_method_25_code 48 = .ok (.invokevirtual 189, 3) := by decide +kernel
theorem d_TC_who_51 : decode prog_1_method_25_code 51 = .ok (.aload_n 0, 1) := by decide +kernel
theorem d_TC_who_52 : decode prog_1_method_25_code 52 = .ok (.getfield 38, 3) := by decide +kernel
theorem d_TC_who_55 : decode prog_1_method_25_code 55 = .ok (.getfield 229, 3) := by decide +kernel
theorem d_TC_who_58 : decode prog_1_method_25_code 58 = .ok (.iload_n 2, 1) := by decide +kernel
theorem d_TC_who_59 : decode prog_1_method_25_code 59 = .ok (.if_icmp .ne 10, 3) := by decide +kernel
theorem d_TC_who_62 : decode prog_1_method_25_code 62 = .ok (.iload_n 3, 1) := by decide +kernel
theorem d_TC_who_63 : decode prog_1_method_25_code 63 = .ok (.iconst 1, 1) := by decide +kernel
theorem d_TC_who_64 : decode prog_1_method_25_code 64 = .ok (.iload 4, 2) := by decide +kernel
theorem d_TC_who_66 : decode prog_1_method_25_code 66 = .ok (.ishl, 1) := by decide +kernel
theorem d_TC_who_67 : decode prog_1_method_25_code 67 = .ok (.ior, 1) := by decide +kernel
theorem d_TC_who_68 : decode prog_1_method_25_code 68 = .ok (.istore_n 3, 1) := by decide +kernel
theorem d_TC_who_69 : decode prog_1_method_25_code 69 = .ok (.iinc 4 1, 3) := by decide +kernel
theorem d_TC_who_72 : decode prog_1_method_25_code 72 = .ok (.goto (-49), 3) := by decide +kernel
theorem d_TC_who_75 : decode prog_1_method_25_code 75 = .ok (.iload_n 3, 1) := by decide +kernel
theorem d_TC_who_76 : decode prog_1_method_25_code 76 = .ok (.ireturn, 1) := by decide +kernel
theorem d_Si_seenAsBits_0 : decode prog_6_method_15_code 0 = .ok (.iconst 0, 1) := by decide +kernel
theorem d_Si_seenAsBits_1 : decode prog_6_method_15_code 1 = .ok (.istore_n 1, 1) := by decide +kernel
theorem d_Si_seenAsBits_2 : decode prog_6_method_15_code 2 = .ok (.iconst 0, 1) := by decide +kernel
theorem d_Si_seenAsBits_3 : decode prog_6_method_15_code 3 = .ok (.istore_n 2, 1) := by decide +kernel
theorem d_Si_seenAsBits_4 : decode prog_6_method_15_code 4 = .ok (.iload_n 2, 1) := by decide +kernel
theorem d_Si_seenAsBits_5 : decode prog_6_method_15_code 5 = .ok (.aload_n 0, 1) := by decide +kernel
theorem d_Si_seenAsBits_6 : decode prog_6_method_15_code 6 = .ok (.getfield 62, 3) := by decide +kernel
theorem d_Si_seenAsBits_9 : decode prog_6_method_15_code 9 = .ok (.if_icmp .ge 20, 3) := by decide +kernel
theorem d_Si_seenAsBits_12 : decode prog_6_method_15_code 12 = .ok (.iload_n 1, 1) := by decide +kernel
theorem d_Si_seenAsBits_13 : decode prog_6_method_15_code 13 = .ok (.iconst 1, 1) := by decide +kernel
theorem d_Si_seenAsBits_14 : decode prog_6_method_15_code 14 = .ok (.aload_n 0, 1) := by decide +kernel
theorem d_Si_seenAsBits_15 : decode prog_6_method_15_code 15 = .ok (.getfield 30, 3) := by decide +kernel
theorem d_Si_seenAsBits_18 : decode prog_6_method_15_code 18 = .ok (.iload_n 2, 1) := by decide +kernel
theorem d_Si_seenAsBits_19 : decode prog_6_method_15_code 19 = .ok (.iaload, 1) := by decide +kernel
theorem d_Si_seenAsBits_20 : decode prog_6_method_15_code 20 = .ok (.ishl, 1) := by decide +kernel
theorem d_Si_seenAsBits_21 : decode prog_6_method_15_code 21 = .ok (.ior, 1) := by decide +kernel
theorem d_Si_seenAsBits_22 : decode prog_6_method_15_code 22 = .ok (.istore_n 1, 1) := by decide +kernel
theorem d_Si_seenAsBits_23 : decode prog_6_method_15_code 23 = .ok (.iinc 2 1, 3) := by decide +kernel
theorem d_Si_seenAsBits_26 : decode prog_6_method_15_code 26 = .ok (.goto (-22), 3) := by decide +kernel
theorem d_Si_seenAsBits_29 : decode prog_6_method_15_code 29 = .ok (.iload_n 1, 1) := by decide +kernel
theorem d_Si_seenAsBits_30 : decode prog_6_method_15_code 30 = .ok (.ireturn, 1) := by decide +kernel
theorem d_TC_startWithTired_0 : decode prog_1_method_26_code 0 = .ok (.aload_n 0, 1) := by decide +kernel
theorem d_TC_startWithTired_1 : decode prog_1_method_26_code 1 = .ok (.getfield 38, 3) := by decide +kernel
theorem d_TC_startWithTired_4 : decode prog_1_method_26_code 4 = .ok (.aload_n 0, 1) := by decide +kernel
theorem d_TC_startWithTired_5 : decode prog_1_method_26_code 5 = .ok (.getfield 24, 3) := by decide +kernel
theorem d_TC_startWithTired_8 : decode prog_1_method_26_code 8 = .ok (.invokevirtual 185, 3) := by decide +kernel
theorem d_TC_startWithTired_11 : decode prog_1_method_26_code 11 = .ok (.aload_n 0, 1) := by decide +kernel
theorem d_TC_startWithTired_12 : decode prog_1_method_26_code 12 = .ok (.getfield 38, 3) := by decide +kernel
theorem d_TC_startWithTired_15 : decode prog_1_method_26_code 15 = .ok (.getfield 206, 3) := by decide +kernel
theorem d_TC_startWithTired_18 : decode prog_1_method_26_code 18 = .ok (.getfield 112, 3) := by decide +kernel
theorem d_TC_startWithTired_21 : decode prog_1_method_26_code 21 = .ok (.iload_n 1, 1) := by decide +kernel
theorem d_TC_startWithTired_22 : decode prog_1_method_26_code 22 = .ok (.dup2, 1) := by decide +kernel
theorem d_TC_startWithTired_23 : decode prog_1_method_26_code 23 = .ok (.iaload, 1) := by decide +kernel
theorem d_TC_startWithTired_24 : decode prog_1_method_26_code 24 = .ok (.bipush 40, 2) := by decide +kernel
theorem d_TC_startWithTired_26 : decode prog_1_method_26_code 26 = .ok (.iadd, 1) := by decide +kernel
theorem d_TC_startWithTired_27 : decode prog_1_method_26_code 27 = .ok (.iastore, 1) := by decide +kernel
theorem d_TC_startWithTired_28 : decode prog_1_method_26_code 28 = .ok (.return_, 1) := by decide +kernel
theorem d_TC_odds_0 : decode prog_1_method_27_code 0 = .ok (.iload_n 1, 1) := by decide +kernel
theorem d_TC_odds_1 : decode prog_1_method_27_code 1 = .ok (.iconst 1, 1) := by decide +kernel
theorem d_TC_odds_2 : decode prog_1_method_27_code 2 = .ok (.if_icmp .lt 33, 3) := by decide +kernel
theorem d_TC_odds_5 : decode prog_1_method_27_code 5 = .ok (.iload_n 1, 1) := by decide +kernel
theorem d_TC_odds_6 : decode prog_1_method_27_code 6 = .ok (.bipush 20, 2) := by decide +kernel
theorem d_TC_odds_8 : decode prog_1_method_27_code 8 = .ok (.if_icmp .gt 27, 3) := by decide +kernel
theorem d_TC_odds_11 : decode prog_1_method_27_code 11 = .ok (.iload_n 2, 1) := by decide +kernel
theorem d_TC_odds_12 : decode prog_1_method_27_code 12 = .ok (.invokestatic 175, 3) := by decide +kernel
theorem d_TC_odds_15 : decode prog_1_method_27_code 15 = .ok (.ifCond .ne 20, 3) := by decide +kernel
theorem d_TC_odds_18 : decode prog_1_method_27_code 18 = .ok (.iload_n 3, 1) := by decide +kernel
theorem d_TC_odds_19 : decode prog_1_method_27_code 19 = .ok (.invokestatic 252, 3) := by decide +kernel
theorem d_TC_odds_22 : decode prog_1_method_27_code 22 = .ok (.ifCond .ne 13, 3) := by decide +kernel
theorem d_TC_odds_25 : decode prog_1_method_27_code 25 = .ok (.aload_n 0, 1) := by decide +kernel
theorem d_TC_odds_26 : decode prog_1_method_27_code 26 = .ok (.getfield 24, 3) := by decide +kernel
theorem d_TC_odds_29 : decode prog_1_method_27_code 29 = .ok (.getfield 67, 3) := by decide +kernel
theorem d_TC_odds_32 : decode prog_1_method_27_code 32 = .ok (.ifCond .ne 7, 3) := by decide +kernel
theorem d_TC_odds_35 : decode prog_1_method_27_code 35 = .ok (.ldc2_w 255, 3) := by decide +kernel
theorem d_TC_odds_38 : decode prog_1_method_27_code 38 = .ok (.lreturn, 1) := by decide +kernel
theorem d_TC_odds_39 : decode prog_1_method_27_code 39 = .ok (.iconst 0, 1) := by decide +kernel
theorem d_TC_odds_40 : decode prog_1_method_27_code 40 = .ok (.istore 4, 2) := by decide +kernel
theorem d_TC_odds_42 : decode prog_1_method_27_code 42 = .ok (.iconst 0, 1) := by decide +kernel
theorem d_TC_odds_43 : decode prog_1_method_27_code 43 = .ok (.istore 5, 2) := by decide +kernel
theorem d_TC_odds_45 : decode prog_1_method_27_code 45 = .ok (.iload 5, 2) := by decide +kernel
theorem d_TC_odds_47 : decode prog_1_method_27_code 47 = .ok (.aload_n 0, 1) := by decide +kernel
theorem d_TC_odds_48 : decode prog_1_method_27_code 48 = .ok (.getfield 24, 3) := by decide +kernel
theorem d_TC_odds_51 : decode prog_1_method_27_code 51 = .ok (.getfield 67, 3) := by decide +kernel
theorem d_TC_odds_54 : decode prog_1_method_27_code 54 = .ok (.if_icmp .ge 32, 3) := by decide +kernel
theorem d_TC_odds_57 : decode prog_1_method_27_code 57 = .ok (.aload_n 0, 1) := by decide +kernel
theorem d_TC_odds_58 : decode prog_1_method_27_code 58 = .ok (.iload 5, 2) := by decide +kernel
theorem d_TC_odds_60 : decode prog_1_method_27_code 60 = .ok (.invokevirtual 249, 3) := by decide +kernel
theorem d_TC_odds_63 : decode prog_1_method_27_code 63 = .ok (.aload_n 0, 1) := by decide +kernel
theorem d_TC_odds_64 : decode prog_1_method_27_code 64 = .ok (.getfield 38, 3) := by decide +kernel
theorem d_TC_odds_67 : decode prog_1_method_27_code 67 = .ok (.iload_n 1, 1) := by decide +kernel
theorem d_TC_odds_68 : decode prog_1_method_27_code 68 = .ok (.iload_n 2, 1) := by decide +kernel
theorem d_TC_odds_69 : decode prog_1_method_27_code 69 = .ok (.iconst 0, 1) := by decide +kernel
theorem d_TC_odds_70 : decode prog_1_method_27_code 70 = .ok (.iconst 0, 1) := by decide +kernel
theorem d_TC_odds_71 : decode prog_1_method_27_code 71 = .ok (.invokevirtual 233, 3) := by decide +kernel
theorem d_TC_odds_74 : decode prog_1_method_27_code 74 = .ok (.ifCond .eq 6, 3) := by decide +kernel
theorem d_TC_odds_77 : decode prog_1_method_27_code 77 = .ok (.iinc 4 1, 3) := by decide +kernel
theorem d_TC_odds_80 : decode prog_1_method_27_code 80 = .ok (.iinc 5 1, 3) := by decide +kernel
theorem d_TC_odds_83 : decode prog_1_method_27_code 83 = .ok (.goto (-38), 3) := by decide +kernel
theorem d_TC_odds_86 : decode prog_1_method_27_code 86 = .ok (.iload 4, 2) := by decide +kernel
theorem d_TC_odds_88 : decode prog_1_method_27_code 88 = .ok (.aload_n 0, 1) := by decide +kernel
theorem d_TC_odds_89 : decode prog_1_method_27_code 89 = .ok (.getfield 24, 3) := by decide +kernel
theorem d_TC_odds_92 : decode prog_1_method_27_code 92 = .ok (.getfield 67, 3) := by decide +kernel
theorem d_TC_odds_95 : decode prog_1_method_27_code 95 = .ok (.iload_n 3, 1) := by decide +kernel
theorem d_TC_odds_96 : decode prog_1_method_27_code 96 = .ok (.invokestatic 257, 3) := by decide +kernel
theorem d_TC_odds_99 : decode prog_1_method_27_code 99 = .ok (.lreturn, 1) := by decide +kernel
theorem d_TC_isNoPart_0 : decode prog_1_method_46_code 0 = .ok (.iload_n 0, 1) := by decide +kernel
theorem d_TC_isNoPart_1 : decode prog_1_method_46_code 1 = .ok (.ifCond .lt 8, 3) := by decide +kernel
theorem d_TC_isNoPart_4 : decode prog_1_method_46_code 4 = .ok (.iload_n 0, 1) := by decide +kernel
theorem d_TC_isNoPart_5 : decode prog_1_method_46_code 5 = .ok (.iconst 1, 1) := by decide +kernel
theorem d_TC_isNoPart_6 : decode prog_1_method_46_code 6 = .ok (.if_icmp .le 7, 3) := by decide +kernel
theorem d_TC_isNoPart_9 : decode prog_1_method_46_code 9 = .ok (.iconst 1, 1) := by decide +kernel
theorem d_TC_isNoPart_10 : decode prog_1_method_46_code 10 = .ok (.goto 4, 3) := by decide +kernel
theorem d_TC_isNoPart_13 : decode prog_1_method_46_code 13 = .ok (.iconst 0, 1) := by decide +kernel
theorem d_TC_isNoPart_14 : decode prog_1_method_46_code 14 = .ok (.ireturn, 1) := by decide +kernel
theorem d_TC_partOfFraction_0 : decode prog_1_method_29_code 0 = .ok (.iconst 1, 1) := by decide +kernel
theorem d_TC_partOfFraction_1 : decode prog_1_method_29_code 1 = .ok (.istore_n 3, 1) := by decide +kernel
theorem d_TC_partOfFraction_2 : decode prog_1_method_29_code 2 = .ok (.iconst 2, 1) := by decide +kernel
theorem d_TC_partOfFraction_3 : decode prog_1_method_29_code 3 = .ok (.istore 4, 2) := by decide +kernel
theorem d_TC_partOfFraction_5 : decode prog_1_method_29_code 5 = .ok (.iload 4, 2) := by decide +kernel
theorem d_TC_partOfFraction_7 : decode prog_1_method_29_code 7 = .ok (.iload_n 1, 1) := by decide +kernel
theorem d_TC_partOfFraction_8 : decode prog_1_method_29_code 8 = .ok (.if_icmp .gt 26, 3) := by decide +kernel
theorem d_TC_partOfFraction_11 : decode prog_1_method_29_code 11 = .ok (.iload_n 0, 1) := by decide +kernel
theorem d_TC_partOfFraction_12 : decode prog_1_method_29_code 12 = .ok (.iload 4, 2) := by decide +kernel
theorem d_TC_partOfFraction_14 : decode prog_1_method_29_code 14 = .ok (.irem, 1) := by decide +kernel
theorem d_TC_partOfFraction_15 : decode prog_1_method_29_code 15 = .ok (.ifCond .ne 13, 3) := by decide +kernel
theorem d_TC_partOfFraction_18 : decode prog_1_method_29_code 18 = .ok (.iload_n 1, 1) := by decide +kernel
theorem d_TC_partOfFraction_19 : decode prog_1_method_29_code 19 = .ok (.iload 4, 2) := by decide +kernel
theorem d_TC_partOfFraction_21 : decode prog_1_method_29_code 21 = .ok (.irem, 1) := by decide +kernel
theorem d_TC_partOfFraction_22 : decode prog_1_method_29_code 22 = .ok (.ifCond .ne 6, 3) := by decide +kernel
theorem d_TC_partOfFraction_25 : decode prog_1_method_29_code 25 = .ok (.iload 4, 2) := by decide +kernel
theorem d_TC_partOfFraction_27 : decode prog_1_method_29_code 27 = .ok (.istore_n 3, 1) := by decide +kernel
theorem d_TC_partOfFraction_28 : decode prog_1_method_29_code 28 = .ok (.iinc 4 1, 3) := by decide +kernel
theorem d_TC_partOfFraction_31 : decode prog_1_method_29_code 31 = .ok (.goto (-26), 3) := by decide +kernel
theorem d_TC_partOfFraction_34 : decode prog_1_method_29_code 34 = .ok (.iload_n 2, 1) := by decide +kernel
theorem d_TC_partOfFraction_35 : decode prog_1_method_29_code 35 = .ok (.ifCond .ne 7, 3) := by decide +kernel
theorem d_TC_partOfFraction_38 : decode prog_1_method_29_code 38 = .ok (.iload_n 0, 1) := by decide +kernel
theorem d_TC_partOfFraction_39 : decode prog_1_method_29_code 39 = .ok (.goto 4, 3) := by decide +kernel
theorem d_TC_partOfFraction_42 : decode prog_1_method_29_code 42 = .ok (.iload_n 1, 1) := by decide +kernel
theorem d_TC_partOfFraction_43 : decode prog_1_method_29_code 43 = .ok (.iload_n 3, 1) := by decide +kernel
theorem d_TC_partOfFraction_44 : decode prog_1_method_29_code 44 = .ok (.idiv, 1) := by decide +kernel
theorem d_TC_partOfFraction_45 : decode prog_1_method_29_code 45 = .ok (.i2l, 1) := by decide +kernel
theorem d_TC_partOfFraction_46 : decode prog_1_method_29_code 46 = .ok (.lreturn, 1) := by decide +kernel
theorem d_TC_mean_0 : decode prog_1_method_28_code 0 = .ok (.iload_n 1, 1) := by decide +kernel
theorem d_TC_mean_1 : decode prog_1_method_28_code 1 = .ok (.iconst 1, 1) := by decide +kernel
theorem d_TC_mean_2 : decode prog_1_method_28_code 2 = .ok (.if_icmp .lt 16, 3) := by decide +kernel
theorem d_TC_mean_5 : decode prog_1_method_28_code 5 = .ok (.iload_n 1, 1) := by decide +kernel
theorem d_TC_mean_6 : decode prog_1_method_28_code 6 = .ok (.bipush 20, 2) := by decide +kernel
theorem d_TC_mean_8 : decode prog_1_method_28_code 8 = .ok (.if_icmp .gt 10, 3) := by decide +kernel
theorem d_TC_mean_11 : decode prog_1_method_28_code 11 = .ok (.iload_n 2, 1) := by decide +kernel
theorem d_TC_mean_12 : decode prog_1_method_28_code 12 = .ok (.invokestatic 252, 3) := by decide +kernel
theorem d_TC_mean_15 : decode prog_1_method_28_code 15 = .ok (.ifCond .eq 7, 3) := by decide +kernel
theorem d_TC_mean_18 : decode prog_1_method_28_code 18 = .ok (.ldc2_w 255, 3) := by decide +kernel
theorem d_TC_mean_21 : decode prog_1_method_28_code 21 = .ok (.lreturn, 1) := by decide +kernel
theorem d_TC_mean_22 : decode prog_1_method_28_code 22 = .ok (.aload_n 0, 1) := by decide +kernel
theorem d_TC_mean_23 : decode prog_1_method_28_code 23 = .ok (.getfield 38, 3) := by decide +kernel
theorem d_TC_mean_26 : decode prog_1_method_28_code 26 = .ok (.aload_n 0, 1) := by decide +kernel
theorem d_TC_mean_27 : decode prog_1_method_28_code 27 = .ok (.getfield 24, 3) := by decide +kernel
theorem d_TC_mean_30 : decode prog_1_method_28_code 30 = .ok (.invokevirtual 185, 3) := by decide +kernel
theorem d_TC_mean_33 : decode prog_1_method_28_code 33 = .ok (.iconst 0, 1) := by decide +kernel
theorem d_TC_mean_34 : decode prog_1_method_28_code 34 = .ok (.istore_n 3, 1) := by decide +kernel
theorem d_TC_mean_35 : decode prog_1_method_28_code 35 = .ok (.iconst 1, 1) := by decide +kernel
theorem d_TC_mean_36 : decode prog_1_method_28_code 36 = .ok (.istore 4, 2) := by decide +kernel
theorem d_TC_mean_38 : decode prog_1_method_28_code 38 = .ok (.iload 4, 2) := by decide +kernel
theorem d_TC_mean_40 : decode prog_1_method_28_code 40 = .ok (.bipush 20, 2) := by decide +kernel
theorem d_TC_mean_42 : decode prog_1_method_28_code 42 = .ok (.if_icmp .gt 29, 3) := by decide +kernel
theorem d_TC_mean_45 : decode prog_1_method_28_code 45 = .ok (.aload_n 0, 1) := by decide +kernel
theorem d_TC_mean_46 : decode prog_1_method_28_code 46 = .ok (.getfield 38, 3) := by decide +kernel
theorem d_TC_mean_49 : decode prog_1_method_28_code 49 = .ok (.iload_n 1, 1) := by decide +kernel
theorem d_TC_mean_50 : decode prog_1_method_28_code 50 = .ok (.iload 4, 2) := by decide +kernel
theorem d_TC_mean_52 : decode prog_1_method_28_code 52 = .ok (.invokevirtual 189, 3) := by decide +kernel
theorem d_TC_mean_55 : decode prog_1_method_28_code 55 = .ok (.iload_n 3, 1) := by decide +kernel
theorem d_TC_mean_56 : decode prog_1_method_28_code 56 = .ok (.aload_n 0, 1) := by decide +kernel
theorem d_TC_mean_57 : decode prog_1_method_28_code 57 = .ok (.getfield 38, 3) := by decide +kernel
theorem d_TC_mean_60 : decode prog_1_method_28_code 60 = .ok (.getfield 192, 3) := by decide +kernel
theorem d_TC_mean_63 : decode prog_1_method_28_code 63 = .ok (.iadd, 1) := by decide +kernel
theorem d_TC_mean_64 : decode prog_1_method_28_code 64 = .ok (.istore_n 3, 1) := by decide +kernel
theorem d_TC_mean_65 : decode prog_1_method_28_code 65 = .ok (.iinc 4 1, 3) := by decide +kernel
theorem d_TC_mean_68 : decode prog_1_method_28_code 68 = .ok (.goto (-30), 3) := by decide +kernel
theorem d_TC_mean_71 : decode prog_1_method_28_code 71 = .ok (.iload_n 3, 1) := by decide +kernel
theorem d_TC_mean_72 : decode prog_1_method_28_code 72 = .ok (.bipush 20, 2) := by decide +kernel
theorem d_TC_mean_74 : decode prog_1_method_28_code 74 = .ok (.iload_n 2, 1) := by decide +kernel
theorem d_TC_mean_75 : decode prog_1_method_28_code 75 = .ok (.invokestatic 257, 3) := by decide +kernel
theorem d_TC_mean_78 : decode prog_1_method_28_code 78 = .ok (.lreturn, 1) := by decide +kernel
theorem d_TC_book_0 : decode prog_1_method_30_code 0 = .ok (.iload_n 1, 1) := by decide +kernel
theorem d_TC_book_1 : decode prog_1_method_30_code 1 = .ok (.iconst (-1), 1) := by decide +kernel
theorem d_TC_book_2 : decode prog_1_method_30_code 2 = .ok (.if_icmp .lt 9, 3) := by decide +kernel
theorem d_TC_book_5 : decode prog_1_method_30_code 5 = .ok (.iload_n 1, 1) := by decide +kernel
theorem d_TC_book_6 : decode prog_1_method_30_code 6 = .ok (.bipush 20, 2) := by decide +kernel
theorem d_TC_book_8 : decode prog_1_method_30_code 8 = .ok (.if_icmp .lt 6, 3) := by decide +kernel
theorem d_TC_book_11 : decode prog_1_method_30_code 11 = .ok (.bipush (-2), 2) := by decide +kernel
theorem d_TC_book_13 : decode prog_1_method_30_code 13 = .ok (.ireturn, 1) := by decide +kernel
theorem d_TC_book_14 : decode prog_1_method_30_code 14 = .ok (.iload_n 1, 1) := by decide +kernel
theorem d_TC_book_15 : decode prog_1_method_30_code 15 = .ok (.iconst (-1), 1) := by decide +kernel
theorem d_TC_book_16 : decode prog_1_method_30_code 16 = .ok (.if_icmp .ne 13, 3) := by decide +kernel
theorem d_TC_book_19 : decode prog_1_method_30_code 19 = .ok (.aload_n 0, 1) := by decide +kernel
theorem d_TC_book_20 : decode prog_1_method_30_code 20 = .ok (.getfield 24, 3) := by decide +kernel
theorem d_TC_book_23 : decode prog_1_method_30_code 23 = .ok (.iconst 0, 1) := by decide +kernel
theorem d_TC_book_24 : decode prog_1_method_30_code 24 = .ok (.putfield 261, 3) := by decide +kernel
theorem d_TC_book_27 : decode prog_1_method_30_code 27 = .ok (.iconst 0, 1) := by decide +kernel
theorem d_TC_book_28 : decode prog_1_method_30_code 28 = .ok (.ireturn, 1) := by decide +kernel
theorem d_TC_book_29 : decode prog_1_method_30_code 29 = .ok (.aload_n 0, 1) := by decide +kernel
theorem d_TC_book_30 : decode prog_1_method_30_code 30 = .ok (.getfield 24, 3) := by decide +kernel
theorem d_TC_book_33 : decode prog_1_method_30_code 33 = .ok (.getfield 261, 3) := by decide +kernel
theorem d_TC_book_36 : decode prog_1_method_30_code 36 = .ok (.bipush 8, 2) := by decide +kernel
theorem d_TC_book_38 : decode prog_1_method_30_code 38 = .ok (.if_icmp .lt 6, 3) := by decide +kernel
theorem d_TC_book_41 : decode prog_1_method_30_code 41 = .ok (.bipush (-4), 2) := by decide +kernel
theorem d_TC_book_43 : decode prog_1_method_30_code 43 = .ok (.ireturn, 1) := by decide +kernel
theorem d_TC_book_44 : decode prog_1_method_30_code 44 = .ok (.aload_n 0, 1) := by decide +kernel
theorem d_TC_book_45 : decode prog_1_method_30_code 45 = .ok (.getfield 24, 3) := by decide +kernel
theorem d_TC_book_48 : decode prog_1_method_30_code 48 = .ok (.getfield 264, 3) := by decide +kernel
theorem d_TC_book_51 : decode prog_1_method_30_code 51 = .ok (.aload_n 0, 1) := by decide +kernel
theorem d_TC_book_52 : decode prog_1_method_30_code 52 = .ok (.getfield 24, 3) := by decide +kernel
theorem d_TC_book_55 : decode prog_1_method_30_code 55 = .ok (.getfield 261, 3) := by decide +kernel
theorem d_TC_book_58 : decode prog_1_method_30_code 58 = .ok (.iconst 2, 1) := by decide +kernel
theorem d_TC_book_59 : decode prog_1_method_30_code 59 = .ok (.iload_n 1, 1) := by decide +kernel
theorem d_TC_book_60 : decode prog_1_method_30_code 60 = .ok (.imul, 1) := by decide +kernel
theorem d_TC_book_61 : decode prog_1_method_30_code 61 = .ok (.iload_n 2, 1) := by decide +kernel
theorem d_TC_book_62 : decode prog_1_method_30_code 62 = .ok (.ifCond .eq 7, 3) := by decide +kernel
theorem d_TC_book_65 : decode prog_1_method_30_code 65 = .ok (.iconst 1, 1) := by decide +kernel
theorem d_TC_book_66 : decode prog_1_method_30_code 66 = .ok (.goto 4, 3) := by decide +kernel
theorem d_TC_book_69 : decode prog_1_method_30_code 69 = .ok (.iconst 0, 1) := by decide +kernel
theorem d_TC_book_70 : decode prog_1_method_30_code 70 = .ok (.iadd, 1) := by decide +kernel
theorem d_TC_book_71 : decode prog_1_method_30_code 71 = .ok (.iastore, 1) := by decide +kernel
theorem d_TC_book_72 : decode prog_1_method_30_code 72 = .ok (.aload_n 0, 1) := by decide +kernel
theorem d_TC_book_73 : decode prog_1_method_30_code 73 = .ok (.getfield 24, 3) := by decide +kernel
theorem d_TC_book_76 : decode prog_1_method_30_code 76 = .ok (.dup, 1) := by decide +kernel
theorem d_TC_book_77 : decode prog_1_method_30_code 77 = .ok (.getfield 261, 3) := by decide +kernel
theorem d_TC_book_80 : decode prog_1_method_30_code 80 = .ok (.iconst 1, 1) := by decide +kernel
theorem d_TC_book_81 : decode prog_1_method_30_code 81 = .ok (.iadd, 1) := by decide +kernel
theorem d_TC_book_82 : decode prog_1_method_30_code 82 = .ok (.putfield 261, 3) := by decide +kernel
theorem d_TC_book_85 : decode prog_1_method_30_code 85 = .ok (.aload_n 0, 1) := by decide +kernel
theorem d_TC_book_86 : decode prog_1_method_30_code 86 = .ok (.getfield 24, 3) := by decide +kernel
theorem d_TC_book_89 : decode prog_1_method_30_code 89 = .ok (.getfield 261, 3) := by decide +kernel
theorem d_TC_book_92 : decode prog_1_method_30_code 92 = .ok (.ireturn, 1) := by decide +kernel
theorem d_TC_looked_0 : decode prog_1_method_31_code 0 = .ok (.iload_n 1, 1) := by decide +kernel
theorem d_TC_looked_1 : decode prog_1_method_31_code 1 = .ok (.invokestatic 175, 3) := by decide +kernel
theorem d_TC_looked_4 : decode prog_1_method_31_code 4 = .ok (.ifCond .eq 6, 3) := by decide +kernel
theorem d_TC_looked_7 : decode prog_1_method_31_code 7 = .ok (.bipush (-2), 2) := by decide +kernel
theorem d_TC_looked_9 : decode prog_1_method_31_code 9 = .ok (.ireturn, 1) := by decide +kernel
theorem d_TC_looked_10 : decode prog_1_method_31_code 10 = .ok (.aload_n 0, 1) := by decide +kernel
theorem d_TC_looked_11 : decode prog_1_method_31_code 11 = .ok (.getfield 38, 3) := by decide +kernel
theorem d_TC_looked_14 : decode prog_1_method_31_code 14 = .ok (.aload_n 0, 1) := by decide +kernel
theorem d_TC_looked_15 : decode prog_1_method_31_code 15 = .ok (.getfield 24, 3) := by decide +kernel
theorem d_TC_looked_18 : decode prog_1_method_31_code 18 = .ok (.invokevirtual 185, 3) := by decide +kernel
theorem d_TC_looked_21 : decode prog_1_method_31_code 21 = .ok (.aload_n 0, 1) := by decide +kernel
theorem d_TC_looked_22 : decode prog_1_method_31_code 22 = .ok (.getfield 38, 3) := by decide +kernel
theorem d_TC_looked_25 : decode prog_1_method_31_code 25 = .ok (.bipush 20, 2) := by decide +kernel
theorem d_TC_looked_27 : decode prog_1_method_31_code 27 = .ok (.iload_n 1, 1) := by decide +kernel
theorem d_TC_looked_28 : decode prog_1_method_31_code 28 = .ok (.invokevirtual 189, 3) := by decide +kernel
theorem d_TC_looked_31 : decode prog_1_method_31_code 31 = .ok (.iconst 0, 1) := by decide +kernel
theorem d_TC_looked_32 : decode prog_1_method_31_code 32 = .ok (.istore_n 2, 1) := by decide +kernel
theorem d_TC_looked_33 : decode prog_1_method_31_code 33 = .ok (.iload_n 2, 1) := by decide +kernel
theorem d_TC_looked_34 : decode prog_1_method_31_code 34 = .ok (.aload_n 0, 1) := by decide +kernel
theorem d_TC_looked_35 : decode prog_1_method_31_code 35 = .ok (.getfield 24, 3) := by decide +kernel
theorem d_TC_looked_38 : decode prog_1_method_31_code 38 = .ok (.getfield 261, 3) := by decide +kernel
theorem d_TC_looked_41 : decode prog_1_method_31_code 41 = .ok (.if_icmp .ge 73, 3) := by decide +kernel
theorem d_TC_looked_44 : decode prog_1_method_31_code 44 = .ok (.aload_n 0, 1) := by decide +kernel
theorem d_TC_looked_45 : decode prog_1_method_31_code 45 = .ok (.getfield 24, 3) := by decide +kernel
theorem d_TC_looked_48 : decode prog_1_method_31_code 48 = .ok (.getfield 264, 3) := by decide +kernel
theorem d_TC_looked_51 : decode prog_1_method_31_code 51 = .ok (.iload_n 2, 1) := by decide +kernel
theorem d_TC_looked_52 : decode prog_1_method_31_code 52 = .ok (.iaload, 1) := by decide +kernel
theorem d_TC_looked_53 : decode prog_1_method_31_code 53 = .ok (.iconst 2, 1) := by decide +kernel
theorem d_TC_looked_54 : decode prog_1_method_31_code 54 = .ok (.idiv, 1) := by decide +kernel
theorem d_TC_looked_55 : decode prog_1_method_31_code 55 = .ok (.istore_n 3, 1) := by decide +kernel
theorem d_TC_looked_56 : decode prog_1_method_31_code 56 = .ok (.aload_n 0, 1) := by decide +kernel
theorem d_TC_looked_57 : decode prog_1_method_31_code 57 = .ok (.getfield 24, 3) := by decide +kernel
theorem d_TC_looked_60 : decode prog_1_method_31_code 60 = .ok (.getfield 264, 3) := by decide +kernel
theorem d_TC_looked_63 : decode prog_1_method_31_code 63 = .ok (.iload_n 2, 1) := by decide +kernel
theorem d_TC_looked_64 : decode prog_1_method_31_code 64 = .ok (.iaload, 1) := by decide +kernel
theorem d_TC_looked_65 : decode prog_1_method_31_code 65 = .ok (.iconst 2, 1) := by decide +kernel
theorem d_TC_looked_66 : decode prog_1_method_31_code 66 = .ok (.irem, 1) := by decide +kernel
theorem d_TC_looked_67 : decode prog_1_method_31_code 67 = .ok (.iconst 1, 1) := by decide +kernel
theorem d_TC_looked_68 : decode prog_1_method_31_code 68 = .ok (.if_icmp .ne 7, 3) := by decide +kernel
theorem d_TC_looked_71 : decode prog_1_method_31_code 71 = .ok (.iconst 1, 1) := by decide +kernel
theorem d_TC_looked_72 : decode prog_1_method_31_code 72 = .ok (.goto 4, 3) := by decide +kernel
theorem d_TC_looked_75 : decode prog_1_method_31_code 75 = .ok (.iconst 0, 1) := by decide +kernel
theorem d_TC_looked_76 : decode prog_1_method_31_code 76 = .ok (.istore 4, 2) := by decide +kernel
theorem d_TC_looked_78 : decode prog_1_method_31_code 78 = .ok (.aload_n 0, 1) := by decide +kernel
theorem d_TC_looked_79 : decode prog_1_method_31_code 79 = .ok (.getfield 38, 3) := by decide +kernel
theorem d_TC_looked_82 : decode prog_1_method_31_code 82 = .ok (.getfield 229, 3) := by decide +kernel
theorem d_TC_looked_85 : decode prog_1_method_31_code 85 = .ok (.iload_n 3, 1) := by decide +kernel
theorem d_TC_looked_86 : decode prog_1_method_31_code 86 = .ok (.ishr, 1) := by decide +kernel
theorem d_TC_looked_87 : decode prog_1_method_31_code 87 = .ok (.iconst 1, 1) := by decide +kernel
theorem d_TC_looked_88 : decode prog_1_method_31_code 88 = .ok (.iand, 1) := by decide +kernel
theorem d_TC_looked_89 : decode prog_1_method_31_code 89 = .ok (.ifCond .ne 7, 3) := by decide +kernel
theorem d_TC_looked_92 : decode prog_1_method_31_code 92 = .ok (.iconst 1, 1) := by decide +kernel
theorem d_TC_looked_93 : decode prog_1_method_31_code 93 = .ok (.goto 4, 3) := by decide +kernel
theorem d_TC_looked_96 : decode prog_1_method_31_code 96 = .ok (.iconst 0, 1) := by decide +kernel
theorem d_TC_looked_97 : decode prog_1_method_31_code 97 = .ok (.istore 5, 2) := by decide +kernel
theorem d_TC_looked_99 : decode prog_1_method_31_code 99 = .ok (.iload 4, 2) := by decide +kernel
theorem d_TC_looked_101 : decode prog_1_method_31_code 101 = .ok (.iload 5, 2) := by decide +kernel
theorem d_TC_looked_103 : decode prog_1_method_31_code 103 = .ok (.if_icmp .eq 5, 3) := by decide +kernel
theorem d_TC_looked_106 : decode prog_1_method_31_code 106 = .ok (.iload_n 2, 1) := by decide +kernel
theorem d_TC_looked_107 : decode prog_1_method_31_code 107 = .ok (.ireturn, 1) := by decide +kernel
theorem d_TC_looked_108 : decode prog_1_method_31_code 108 = .ok (.iinc 2 1, 3) := by decide +kernel
theorem d_TC_looked_111 : decode prog_1_method_31_code 111 = .ok (.goto (-78), 3) := by decide +kernel
theorem d_TC_looked_114 : decode prog_1_method_31_code 114 = .ok (.bipush (-5), 2) := by decide +kernel
theorem d_TC_looked_116 : decode prog_1_method_31_code 116 = .ok (.ireturn, 1) := by decide +kernel
theorem d_TC_judge_0 : decode prog_1_method_32_code 0 = .ok (.iload_n 1, 1) := by decide +kernel
theorem d_TC_judge_1 : decode prog_1_method_32_code 1 = .ok (.invokestatic 267, 3) := by decide +kernel
theorem d_TC_judge_4 : decode prog_1_method_32_code 4 = .ok (.ifCond .eq 5, 3) := by decide +kernel
theorem d_TC_judge_7 : decode prog_1_method_32_code 7 = .ok (.iconst (-1), 1) := by decide +kernel
theorem d_TC_judge_8 : decode prog_1_method_32_code 8 = .ok (.ireturn, 1) := by decide +kernel
theorem d_TC_judge_9 : decode prog_1_method_32_code 9 = .ok (.aload_n 0, 1) := by decide +kernel
theorem d_TC_judge_10 : decode prog_1_method_32_code 10 = .ok (.getfield 52, 3) := by decide +kernel
theorem d_TC_judge_13 : decode prog_1_method_32_code 13 = .ok (.iload_n 1, 1) := by decide +kernel
theorem d_TC_judge_14 : decode prog_1_method_32_code 14 = .ok (.aaload, 1) := by decide +kernel
theorem d_TC_judge_15 : decode prog_1_method_32_code 15 = .ok (.astore_n 3, 1) := by decide +kernel
theorem d_TC_judge_16 : decode prog_1_method_32_code 16 = .ok (.aload_n 3, 1) := by decide +kernel
theorem d_TC_judge_17 : decode prog_1_method_32_code 17 = .ok (.getfield 270, 3) := by decide +kernel
theorem d_TC_judge_20 : decode prog_1_method_32_code 20 = .ok (.iconst (-1), 1) := by decide +kernel
theorem d_TC_judge_21 : decode prog_1_method_32_code 21 = .ok (.if_icmp .eq 14, 3) := by decide +kernel
theorem d_TC_judge_24 : decode prog_1_method_32_code 24 = .ok (.aload_n 3, 1) := by decide +kernel
theorem d_TC_judge_25 : decode prog_1_method_32_code 25 = .ok (.getfield 270, 3) := by decide +kernel
theorem d_TC_judge_28 : decode prog_1_method_32_code 28 = .ok (.iconst 2, 1) := by decide +kernel
theorem d_TC_judge_29 : decode prog_1_method_32_code 29 = .ok (.if_icmp .eq 6, 3) := by decide +kernel
theorem d_TC_judge_32 : decode prog_1_method_32_code 32 = .ok (.bipush (-12), 2) := by decide +kernel
theorem d_TC_judge_34 : decode prog_1_method_32_code 34 = .ok (.ireturn, 1) := by decide +kernel
theorem d_TC_judge_35 : decode prog_1_method_32_code 35 = .ok (.iconst 0, 1) := by decide +kernel
theorem d_TC_judge_36 : decode prog_1_method_32_code 36 = .ok (.istore 4, 2) := by decide +kernel
theorem d_TC_judge_38 : decode prog_1_method_32_code 38 = .ok (.iload 4, 2) := by decide +kernel
theorem d_TC_judge_40 : decode prog_1_method_32_code 40 = .ok (.aload_n 0, 1) := by decide +kernel
theorem d_TC_judge_41 : decode prog_1_method_32_code 41 = .ok (.getfield 24, 3) := by decide +kernel
theorem d_TC_judge_44 : decode prog_1_method_32_code 44 = .ok (.getfield 67, 3) := by decide +kernel
theorem d_TC_judge_47 : decode prog_1_method_32_code 47 = .ok (.if_icmp .ge 61, 3) := by decide +kernel
theorem d_TC_judge_50 : decode prog_1_method_32_code 50 = .ok (.iload_n 2, 1) := by decide +kernel
theorem d_TC_judge_51 : decode prog_1_method_32_code 51 = .ok (.ifCond .lt 18, 3) := by decide +kernel
theorem d_TC_judge_54 : decode prog_1_method_32_code 54 = .ok (.iload_n 2, 1) := by decide +kernel
theorem d_TC_judge_55 : decode prog_1_method_32_code 55 = .ok (.i2l, 1) := by decide +kernel
theorem d_TC_judge_56 : decode prog_1_method_32_code 56 = .ok (.iload 4, 2) := by decide +kernel
theorem d_TC_judge_58 : decode prog_1_method_32_code 58 = .ok (.i2l, 1) := by decide +kernel
theorem d_TC_judge_59 : decode prog_1_method_32_code 59 = .ok (.ladd, 1) := by decide +kernel
theorem d_TC_judge_60 : decode prog_1_method_32_code 60 = .ok (.aload_n 3, 1) := by decide +kernel
theorem d_TC_judge_61 : decode prog_1_method_32_code 61 = .ok (.getfield 273, 3) := by decide +kernel
theorem d_TC_judge_64 : decode prog_1_method_32_code 64 = .ok (.i2l, 1) := by decide +kernel
theorem d_TC_judge_65 : decode prog_1_method_32_code 65 = .ok (.lcmp, 1) := by decide +kernel
theorem d_TC_judge_66 : decode prog_1_method_32_code 66 = .ok (.ifCond .lt 9, 3) := by decide +kernel
theorem d_TC_judge_69 : decode prog_1_method_32_code 69 = .ok (.bipush 100, 2) := by decide +kernel
theorem d_TC_judge_71 : decode prog_1_method_32_code 71 = .ok (.iload 4, 2) := by decide +kernel
theorem d_TC_judge_73 : decode prog_1_method_32_code 73 = .ok (.iadd, 1) := by decide +kernel
theorem d_TC_judge_74 : decode prog_1_method_32_code 74 = .ok (.ireturn, 1) := by decide +kernel
theorem d_TC_judge_75 : decode prog_1_method_32_code 75 = .ok (.aload_n 3, 1) := by decide +kernel
theorem d_TC_judge_76 : decode prog_1_method_32_code 76 = .ok (.getfield 276, 3) := by decide +kernel
theorem d_TC_judge_79 : decode prog_1_method_32_code 79 = .ok (.iload_n 2, 1) := by decide +kernel
theorem d_TC_judge_80 : decode prog_1_method_32_code 80 = .ok (.iload 4, 2) := by decide +kernel
theorem d_TC_judge_82 : decode prog_1_method_32_code 82 = .ok (.iadd, 1) := by decide +kernel
theorem d_TC_judge_83 : decode prog_1_method_32_code 83 = .ok (.laload, 1) := by decide +kernel
theorem d_TC_judge_84 : decode prog_1_method_32_code 84 = .ok (.aload_n 0, 1) := by decide +kernel
theorem d_TC_judge_85 : decode prog_1_method_32_code 85 = .ok (.getfield 24, 3) := by decide +kernel
theorem d_TC_judge_88 : decode prog_1_method_32_code 88 = .ok (.getfield 115, 3) := by decide +kernel
theorem d_TC_judge_91 : decode prog_1_method_32_code 91 = .ok (.iload 4, 2) := by decide +kernel
theorem d_TC_judge_93 : decode prog_1_method_32_code 93 = .ok (.iaload, 1) := by decide +kernel
theorem d_TC_judge_94 : decode prog_1_method_32_code 94 = .ok (.i2l, 1) := by decide +kernel
theorem d_TC_judge_95 : decode prog_1_method_32_code 95 = .ok (.lcmp, 1) := by decide +kernel
theorem d_TC_judge_96 : decode prog_1_method_32_code 96 = .ok (.ifCond .eq 6, 3) := by decide +kernel
theorem d_TC_judge_99 : decode prog_1_method_32_code 99 = .ok (.iload 4, 2) := by decide +kernel
theorem d_TC_judge_101 : decode prog_1_method_32_code 101 = .ok (.ireturn, 1) := by decide +kernel
theorem d_TC_judge_102 : decode prog_1_method_32_code 102 = .ok (.iinc 4 1, 3) := by decide +kernel
theorem d_TC_judge_105 : decode prog_1_method_32_code 105 = .ok (.goto (-67), 3) := by decide +kernel
theorem d_TC_judge_108 : decode prog_1_method_32_code 108 = .ok (.bipush (-5), 2) := by decide +kernel
theorem d_TC_judge_110 : decode prog_1_method_32_code 110 = .ok (.ireturn, 1) := by decide +kernel
theorem d_TC_isNoTape_0 : decode prog_1_method_47_code 0 = .ok (.iload_n 0, 1) := by decide +kernel
theorem d_TC_isNoTape_1 : decode prog_1_method_47_code 1 = .ok (.ifCond .lt 9, 3) := by decide +kernel
theorem d_TC_isNoTape_4 : decode prog_1_method_47_code 4 = .ok (.iload_n 0, 1) := by decide +kernel
theorem d_TC_isNoTape_5 : decode prog_1_method_47_code 5 = .ok (.bipush 6, 2) := by decide +kernel
theorem d_TC_isNoTape_7 : decode prog_1_method_47_code 7 = .ok (.if_icmp .lt 7, 3) := by decide +kernel
theorem d_TC_isNoTape_10 : decode prog_1_method_47_code 10 = .ok (.iconst 1, 1) := by decide +kernel
theorem d_TC_isNoTape_11 : decode prog_1_method_47_code 11 = .ok (.goto 4, 3) := by decide +kernel
theorem d_TC_isNoTape_14 : decode prog_1_method_47_code 14 = .ok (.iconst 0, 1) := by decide +kernel
theorem d_TC_isNoTape_15 : decode prog_1_method_47_code 15 = .ok (.ireturn, 1) := by decide +kernel
theorem d_TC_image_0 : decode prog_1_method_33_code 0 = .ok (.aload_n 0, 1) := by decide +kernel
theorem d_TC_image_1 : decode prog_1_method_33_code 1 = .ok (.getfield 30, 3) := by decide +kernel
theorem d_TC_image_4 : decode prog_1_method_33_code 4 = .ok (.aload_n 0, 1) := by decide +kernel
theorem d_TC_image_5 : decode prog_1_method_33_code 5 = .ok (.getfield 24, 3) := by decide +kernel
theorem d_TC_image_8 : decode prog_1_method_33_code 8 = .ok (.invokevirtual 280, 3) := by decide +kernel
theorem d_TC_image_11 : decode prog_1_method_33_code 11 = .ok (.aload_n 0, 1) := by decide +kernel
theorem d_TC_image_12 : decode prog_1_method_33_code 12 = .ok (.getfield 30, 3) := by decide +kernel
theorem d_TC_image_15 : decode prog_1_method_33_code 15 = .ok (.aload_n 0, 1) := by decide +kernel
theorem d_TC_image_16 : decode prog_1_method_33_code 16 = .ok (.getfield 24, 3) := by decide +kernel
theorem d_TC_image_19 : decode prog_1_method_33_code 19 = .ok (.invokevirtual 283, 3) := by decide +kernel
theorem d_TC_image_22 : decode prog_1_method_33_code 22 = .ok (.aload_n 0, 1) := by decide +kernel
theorem d_TC_image_23 : decode prog_1_method_33_code 23 = .ok (.iconst 1, 1) := by decide +kernel
theorem d_TC_image_24 : decode prog_1_method_33_code 24 = .ok (.putfield 286, 3) := by decide +kernel
theorem d_TC_image_27 : decode prog_1_method_33_code 27 = .ok (.aload_n 0, 1) := by decide +kernel
theorem d_TC_image_28 : decode prog_1_method_33_code 28 = .ok (.getfield 24, 3) := by decide +kernel
theorem d_TC_image_31 : decode prog_1_method_33_code 31 = .ok (.getfield 67, 3) := by decide +kernel
theorem d_TC_image_34 : decode prog_1_method_33_code 34 = .ok (.ireturn, 1) := by decide +kernel
theorem d_Si_copyNotes_0 : decode prog_6_method_3_code 0 = .ok (.aload_n 1, 1) := by decide +kernel
theorem d_Si_copyNotes_1 : decode prog_6_method_3_code 1 = .ok (.getfield 30, 3) := by decide +kernel
theorem d_Si_copyNotes_4 : decode prog_6_method_3_code 4 = .ok (.iconst 0, 1) := by decide +kernel
theorem d_Si_copyNotes_5 : decode prog_6_method_3_code 5 = .ok (.aload_n 0, 1) := by decide +kernel
theorem d_Si_copyNotes_6 : decode prog_6_method_3_code 6 = .ok (.getfield 30, 3) := by decide +kernel
theorem d_Si_copyNotes_9 : decode prog_6_method_3_code 9 = .ok (.iconst 0, 1) := by decide +kernel
theorem d_Si_copyNotes_10 : decode prog_6_method_3_code 10 = .ok (.bipush 6, 2) := by decide +kernel
theorem d_Si_copyNotes_12 : decode prog_6_method_3_code 12 = .ok (.invokestatic 40, 3) := by decide +kernel
theorem d_Si_copyNotes_15 : decode prog_6_method_3_code 15 = .ok (.aload_n 1, 1) := by decide +kernel
theorem d_Si_copyNotes_16 : decode prog_6_method_3_code 16 = .ok (.getfield 33, 3) := by decide +kernel
theorem d_Si_copyNotes_19 : decode prog_6_method_3_code 19 = .ok (.iconst 0, 1) := by decide +kernel
theorem d_Si_copyNotes_20 : decode prog_6_method_3_code 20 = .ok (.aload_n 0, 1) := by decide +kernel
theorem d_Si_copyNotes_21 : decode prog_6_method_3_code 21 = .ok (.getfield 33, 3) := by decide +kernel
theorem d_Si_copyNotes_24 : decode prog_6_method_3_code 24 = .ok (.iconst 0, 1) := by decide +kernel
theorem d_Si_copyNotes_25 : decode prog_6_method_3_code 25 = .ok (.bipush 8, 2) := by decide +kernel
theorem d_Si_copyNotes_27 : decode prog_6_method_3_code 27 = .ok (.invokestatic 40, 3) := by decide +kernel
theorem d_Si_copyNotes_30 : decode prog_6_method_3_code 30 = .ok (.aload_n 0, 1) := by decide +kernel
theorem d_Si_copyNotes_31 : decode prog_6_method_3_code 31 = .ok (.aload_n 1, 1) := by decide +kernel
theorem d_Si_copyNotes_32 : decode prog_6_method_3_code 32 = .ok (.getfield 62, 3) := by decide +kernel
theorem d_Si_copyNotes_35 : decode prog_6_method_3_code 35 = .ok (.putfield 62, 3) := by decide +kernel
theorem d_Si_copyNotes_38 : decode prog_6_method_3_code 38 = .ok (.aload_n 0, 1) := by decide +kernel
theorem d_Si_copyNotes_39 : decode prog_6_method_3_code 39 = .ok (.aload_n 1, 1) := by decide +kernel
theorem d_Si_copyNotes_40 : decode prog_6_method_3_code 40 = .ok (.getfield 65, 3) := by decide +kernel
theorem d_Si_copyNotes_43 : decode prog_6_method_3_code 43 = .ok (.putfield 65, 3) := by decide +kernel
theorem d_Si_copyNotes_46 : decode prog_6_method_3_code 46 = .ok (.return_, 1) := by decide +kernel
theorem d_TC_undo_0 : decode prog_1_method_34_code 0 = .ok (.aload_n 0, 1) := by decide +kernel
theorem d_TC_undo_1 : decode prog_1_method_34_code 1 = .ok (.getfield 286, 3) := by decide +kernel
theorem d_TC_undo_4 : decode prog_1_method_34_code 4 = .ok (.ifCond .ne 6, 3) := by decide +kernel
theorem d_TC_undo_7 : decode prog_1_method_34_code 7 = .ok (.bipush (-3), 2) := by decide +kernel
theorem d_TC_undo_9 : decode prog_1_method_34_code 9 = .ok (.ireturn, 1) := by decide +kernel
theorem d_TC_undo_10 : decode prog_1_method_34_code 10 = .ok (.aload_n 0, 1) := by decide +kernel
theorem d_TC_undo_11 : decode prog_1_method_34_code 11 = .ok (.getfield 24, 3) := by decide +kernel
theorem d_TC_undo_14 : decode prog_1_method_34_code 14 = .ok (.aload_n 0, 1) := by decide +kernel
theorem d_TC_undo_15 : decode prog_1_method_34_code 15 = .ok (.getfield 30, 3) := by decide +kernel
theorem d_TC_undo_18 : decode prog_1_method_34_code 18 = .ok (.invokevirtual 280, 3) := by decide +kernel
theorem d_TC_undo_21 : decode prog_1_method_34_code 21 = .ok (.aload_n 0, 1) := by decide +kernel
theorem d_TC_undo_22 : decode prog_1_method_34_code 22 = .ok (.getfield 24, 3) := by decide +kernel
theorem d_TC_undo_25 : decode prog_1_method_34_code 25 = .ok (.aload_n 0, 1) := by decide +kernel
theorem d_TC_undo_26 : decode prog_1_method_34_code 26 = .ok (.getfield 30, 3) := by decide +kernel
theorem d_TC_undo_29 : decode prog_1_method_34_code 29 = .ok (.invokevirtual 283, 3) := by decide +kernel
theorem d_TC_undo_32 : decode prog_1_method_34_code 32 = .ok (.aload_n 0, 1) := by decide +kernel
theorem d_TC_undo_33 : decode prog_1_method_34_code 33 = .ok (.getfield 24, 3) := by decide +kernel
theorem d_TC_undo_36 : decode prog_1_method_34_code 36 = .ok (.getfield 67, 3) := by decide +kernel
theorem d_TC_undo_39 : decode prog_1_method_34_code 39 = .ok (.ireturn, 1) := by decide +kernel
theorem d_TC_act_0 : decode prog_1_method_35_code 0 = .ok (.aload_n 0, 1) := by decide +kernel
theorem d_TC_act_1 : decode prog_1_method_35_code 1 = .ok (.getfield 57, 3) := by decide +kernel
theorem d_TC_act_4 : decode prog_1_method_35_code 4 = .ok (.iconst 0, 1) := by decide +kernel
theorem d_TC_act_5 : decode prog_1_method_35_code 5 = .ok (.iconst 0, 1) := by decide +kernel
theorem d_TC_act_6 : decode prog_1_method_35_code 6 = .ok (.iastore, 1) := by decide +kernel
theorem d_TC_act_7 : decode prog_1_method_35_code 7 = .ok (.aload_n 0, 1) := by decide +kernel
theorem d_TC_act_8 : decode prog_1_method_35_code 8 = .ok (.iload_n 1, 1) := by decide +kernel
theorem d_TC_act_9 : decode prog_1_method_35_code 9 = .ok (.invokevirtual 97, 3) := by decide +kernel
theorem d_TC_act_12 : decode prog_1_method_35_code 12 = .ok (.ifCond .eq 5, 3) := by decide +kernel
theorem d_TC_act_15 : decode prog_1_method_35_code 15 = .ok (.iconst 0, 1) := by decide +kernel
theorem d_TC_act_16 : decode prog_1_method_35_code 16 = .ok (.ireturn, 1) := by decide +kernel
theorem d_TC_act_17 : decode prog_1_method_35_code 17 = .ok (.iload_n 2, 1) := by decide +kernel
theorem d_TC_act_18 : decode prog_1_method_35_code 18 = .ok (.tableswitch 80 0 2 #[26, 44, 62], 26) := by decide +kernel
theorem d_TC_act_44 : decode prog_1_method_35_code 44 = .ok (.aload_n 0, 1) := by decide +kernel
theorem d_TC_act_45 : decode prog_1_method_35_code 45 = .ok (.getfield 24, 3) := by decide +kernel
theorem d_TC_act_48 : decode prog_1_method_35_code 48 = .ok (.getfield 101, 3) := by decide +kernel
theorem d_TC_act_51 : decode prog_1_method_35_code 51 = .ok (.iload_n 1, 1) := by decide +kernel
theorem d_TC_act_52 : decode prog_1_method_35_code 52 = .ok (.aaload, 1) := by decide +kernel
theorem d_TC_act_53 : decode prog_1_method_35_code 53 = .ok (.iload_n 3, 1) := by decide +kernel
theorem d_TC_act_54 : decode prog_1_method_35_code 54 = .ok (.aload_n 0, 1) := by decide +kernel
theorem d_TC_act_55 : decode prog_1_method_35_code 55 = .ok (.getfield 57, 3) := by decide +kernel
theorem d_TC_act_58 : decode prog_1_method_35_code 58 = .ok (.invokevirtual 290, 3) := by decide +kernel
theorem d_TC_act_61 : decode prog_1_method_35_code 61 = .ok (.ireturn, 1) := by decide +kernel
theorem d_TC_act_62 : decode prog_1_method_35_code 62 = .ok (.aload_n 0, 1) := by decide +kernel
theorem d_TC_act_63 : decode prog_1_method_35_code 63 = .ok (.getfield 24, 3) := by decide +kernel
theorem d_TC_act_66 : decode prog_1_method_35_code 66 = .ok (.getfield 101, 3) := by decide +kernel
theorem d_TC_act_69 : decode prog_1_method_35_code 69 = .ok (.iload_n 1, 1) := by decide +kernel
theorem d_TC_act_70 : decode prog_1_method_35_code 70 = .ok (.aaload, 1) := by decide +kernel
theorem d_TC_act_71 : decode prog_1_method_35_code 71 = .ok (.iload_n 3, 1) := by decide +kernel
theorem d_TC_act_72 : decode prog_1_method_35_code 72 = .ok (.aload_n 0, 1) := by decide +kernel
theorem d_TC_act_73 : decode prog_1_method_35_code 73 = .ok (.getfield 57, 3) := by decide +kernel
theorem d_TC_act_76 : decode prog_1_method_35_code 76 = .ok (.invokevirtual 294, 3) := by decide +kernel
theorem d_TC_act_79 : decode prog_1_method_35_code 79 = .ok (.ireturn, 1) := by decide +kernel
theorem d_TC_act_80 : decode prog_1_method_35_code 80 = .ok (.aload_n 0, 1) := by decide +kernel
theorem d_TC_act_81 : decode prog_1_method_35_code 81 = .ok (.getfield 24, 3) := by decide +kernel
theorem d_TC_act_84 : decode prog_1_method_35_code 84 = .ok (.getfield 101, 3) := by decide +kernel
theorem d_TC_act_87 : decode prog_1_method_35_code 87 = .ok (.iload_n 1, 1) := by decide +kernel
theorem d_TC_act_88 : decode prog_1_method_35_code 88 = .ok (.aaload, 1) := by decide +kernel
theorem d_TC_act_89 : decode prog_1_method_35_code 89 = .ok (.iload_n 3, 1) := by decide +kernel
theorem d_TC_act_90 : decode prog_1_method_35_code 90 = .ok (.aload_n 0, 1) := by decide +kernel
theorem d_TC_act_91 : decode prog_1_method_35_code 91 = .ok (.getfield 57, 3) := by decide +kernel
theorem d_TC_act_94 : decode prog_1_method_35_code 94 = .ok (.invokevirtual 297, 3) := by decide +kernel
theorem d_TC_act_97 : decode prog_1_method_35_code 97 = .ok (.ireturn, 1) := by decide +kernel
theorem d_TC_act_98 : decode prog_1_method_35_code 98 = .ok (.iconst 0, 1) := by decide +kernel
theorem d_TC_act_99 : decode prog_1_method_35_code 99 = .ok (.ireturn, 1) := by decide +kernel
theorem d_Ca_tosses_0 : decode prog_2_method_4_code 0 = .ok (.bipush 50, 2) := by decide +kernel
theorem d_Ca_tosses_2 : decode prog_2_method_4_code 2 = .ok (.aload_n 2, 1) := by decide +kernel
theorem d_Ca_tosses_3 : decode prog_2_method_4_code 3 = .ok (.invokestatic 17, 3) := by decide +kernel
theorem d_Ca_tosses_6 : decode prog_2_method_4_code 6 = .ok (.aload_n 0, 1) := by decide +kernel
theorem d_Ca_tosses_7 : decode prog_2_method_4_code 7 = .ok (.iload_n 1, 1) := by decide +kernel
theorem d_Ca_tosses_8 : decode prog_2_method_4_code 8 = .ok (.aload_n 2, 1) := by decide +kernel
theorem d_Ca_tosses_9 : decode prog_2_method_4_code 9 = .ok (.invokespecial 23, 3) := by decide +kernel
theorem d_Ca_tosses_12 : decode prog_2_method_4_code 12 = .ok (.ineg, 1) := by decide +kernel
theorem d_Ca_tosses_13 : decode prog_2_method_4_code 13 = .ok (.ireturn, 1) := by decide +kernel
theorem d_Ma_begin_0 : decode prog_4_method_5_code 0 = .ok (.aload_n 1, 1) := by decide +kernel
theorem d_Ma_begin_1 : decode prog_4_method_5_code 1 = .ok (.iconst 0, 1) := by decide +kernel
theorem d_Ma_begin_2 : decode prog_4_method_5_code 2 = .ok (.dup2, 1) := by decide +kernel
theorem d_Ma_begin_3 : decode prog_4_method_5_code 3 = .ok (.iaload, 1) := by decide +kernel
theorem d_Ma_begin_4 : decode prog_4_method_5_code 4 = .ok (.iconst 1, 1) := by decide +kernel
theorem d_Ma_begin_5 : decode prog_4_method_5_code 5 = .ok (.iadd, 1) := by decide +kernel
theorem d_Ma_begin_6 : decode prog_4_method_5_code 6 = .ok (.iastore, 1) := by decide +kernel
theorem d_Ma_begin_7 : decode prog_4_method_5_code 7 = .ok (.aload_n 1, 1) := by decide +kernel
theorem d_Ma_begin_8 : decode prog_4_method_5_code 8 = .ok (.iconst 0, 1) := by decide +kernel
theorem d_Ma_begin_9 : decode prog_4_method_5_code 9 = .ok (.iaload, 1) := by decide +kernel
theorem d_Ma_begin_10 : decode prog_4_method_5_code 10 = .ok (.aload_n 1, 1) := by decide +kernel
theorem d_Ma_begin_11 : decode prog_4_method_5_code 11 = .ok (.arraylength, 1) := by decide +kernel
theorem d_Ma_begin_12 : decode prog_4_method_5_code 12 = .ok (.if_icmp .ge 9, 3) := by decide +kernel
theorem d_Ma_begin_15 : decode prog_4_method_5_code 15 = .ok (.aload_n 1, 1) := by decide +kernel
theorem d_Ma_begin_16 : decode prog_4_method_5_code 16 = .ok (.aload_n 1, 1) := by decide +kernel
theorem d_Ma_begin_17 : decode prog_4_method_5_code 17 = .ok (.iconst 0, 1) := by decide +kernel
theorem d_Ma_begin_18 : decode prog_4_method_5_code 18 = .ok (.iaload, 1) := by decide +kernel
theorem d_Ma_begin_19 : decode prog_4_method_5_code 19 = .ok (.iload_n 0, 1) := by decide +kernel
theorem d_Ma_begin_20 : decode prog_4_method_5_code 20 = .ok (.iastore, 1) := by decide +kernel
theorem d_Ma_begin_21 : decode prog_4_method_5_code 21 = .ok (.return_, 1) := by decide +kernel
theorem d_Gl_tosses_0 : decode prog_3_method_4_code 0 = .ok (.bipush 30, 2) := by decide +kernel
theorem d_Gl_tosses_2 : decode prog_3_method_4_code 2 = .ok (.aload_n 2, 1) := by decide +kernel
theorem d_Gl_tosses_3 : decode prog_3_method_4_code 3 = .ok (.invokestatic 7, 3) := by decide +kernel
theorem d_Gl_tosses_6 : decode prog_3_method_4_code 6 = .ok (.aload_n 0, 1) := by decide +kernel
theorem d_Gl_tosses_7 : decode prog_3_method_4_code 7 = .ok (.iload_n 1, 1) := by decide +kernel
theorem d_Gl_tosses_8 : decode prog_3_method_4_code 8 = .ok (.iconst 3, 1) := by decide +kernel
theorem d_Gl_tosses_9 : decode prog_3_method_4_code 9 = .ok (.imul, 1) := by decide +kernel
theorem d_Gl_tosses_10 : decode prog_3_method_4_code 10 = .ok (.aload_n 2, 1) := by decide +kernel
theorem d_Gl_tosses_11 : decode prog_3_method_4_code 11 = .ok (.invokespecial 13, 3) := by decide +kernel
theorem d_Gl_tosses_14 : decode prog_3_method_4_code 14 = .ok (.ireturn, 1) := by decide +kernel
theorem d_To_tosses_0 : decode prog_11_method_5_code 0 = .ok (.bipush 71, 2) := by decide +kernel
theorem d_To_tosses_2 : decode prog_11_method_5_code 2 = .ok (.aload_n 2, 1) := by decide +kernel
theorem d_To_tosses_3 : decode prog_11_method_5_code 3 = .ok (.invokestatic 11, 3) := by decide +kernel
theorem d_To_tosses_6 : decode prog_11_method_5_code 6 = .ok (.aload_n 0, 1) := by decide +kernel
theorem d_To_tosses_7 : decode prog_11_method_5_code 7 = .ok (.iload_n 1, 1) := by decide +kernel
theorem d_To_tosses_8 : decode prog_11_method_5_code 8 = .ok (.aload_n 2, 1) := by decide +kernel
theorem d_To_tosses_9 : decode prog_11_method_5_code 9 = .ok (.invokespecial 21, 3) := by decide +kernel
theorem d_To_tosses_12 : decode prog_11_method_5_code 12 = .ok (.aload_n 0, 1) := by decide +kernel
theorem d_To_tosses_13 : decode prog_11_method_5_code 13 = .ok (.getfield 24, 3) := by decide +kernel
theorem d_To_tosses_16 : decode prog_11_method_5_code 16 = .ok (.ixor, 1) := by decide +kernel
theorem d_To_tosses_17 : decode prog_11_method_5_code 17 = .ok (.ireturn, 1) := by decide +kernel
theorem d_Ma_tosses_0 : decode prog_4_method_6_code 0 = .ok (.bipush 10, 2) := by decide +kernel
theorem d_Ma_tosses_2 : decode prog_4_method_6_code 2 = .ok (.aload_n 2, 1) := by decide +kernel
theorem d_Ma_tosses_3 : decode prog_4_method_6_code 3 = .ok (.invokestatic 16, 3) := by decide +kernel
theorem d_Ma_tosses_6 : decode prog_4_method_6_code 6 = .ok (.iload_n 1, 1) := by decide +kernel
theorem d_Ma_tosses_7 : decode prog_4_method_6_code 7 = .ok (.aload_n 0, 1) := by decide +kernel
theorem d_Ma_tosses_8 : decode prog_4_method_6_code 8 = .ok (.getfield 7, 3) := by decide +kernel
theorem d_Ma_tosses_11 : decode prog_4_method_6_code 11 = .ok (.iadd, 1) := by decide +kernel
theorem d_Ma_tosses_12 : decode prog_4_method_6_code 12 = .ok (.ireturn, 1) := by decide +kernel
theorem d_Ca_takes_0 : decode prog_2_method_5_code 0 = .ok (.bipush 51, 2) := by decide +kernel
theorem d_Ca_takes_2 : decode prog_2_method_5_code 2 = .ok (.aload_n 2, 1) := by decide +kernel
theorem d_Ca_takes_3 : decode prog_2_method_5_code 3 = .ok (.invokestatic 17, 3) := by decide +kernel
theorem d_Ca_takes_6 : decode prog_2_method_5_code 6 = .ok (.aload_n 0, 1) := by decide +kernel
theorem d_Ca_takes_7 : decode prog_2_method_5_code 7 = .ok (.iload_n 1, 1) := by decide +kernel
theorem d_Ca_takes_8 : decode prog_2_method_5_code 8 = .ok (.iconst 1, 1) := by decide +kernel
theorem d_Ca_takes_9 : decode prog_2_method_5_code 9 = .ok (.iadd, 1) := by decide +kernel
theorem d_Ca_takes_10 : decode prog_2_method_5_code 10 = .ok (.aload_n 2, 1) := by decide +kernel
theorem d_Ca_takes_11 : decode prog_2_method_5_code 11 = .ok (.invokespecial 27, 3) := by decide +kernel
theorem d_Ca_takes_14 : decode prog_2_method_5_code 14 = .ok (.ireturn, 1) := by decide +kernel
theorem d_St_takes_0 : decode prog_8_method_4_code 0 = .ok (.bipush 20, 2) := by decide +kernel
theorem d_St_takes_2 : decode prog_8_method_4_code 2 = .ok (.aload_n 2, 1) := by decide +kernel
theorem d_St_takes_3 : decode prog_8_method_4_code 3 = .ok (.invokestatic 19, 3) := by decide +kernel
theorem d_St_takes_6 : decode prog_8_method_4_code 6 = .ok (.aload_n 0, 1) := by decide +kernel
theorem d_St_takes_7 : decode prog_8_method_4_code 7 = .ok (.iload_n 1, 1) := by decide +kernel
theorem d_St_takes_8 : decode prog_8_method_4_code 8 = .ok (.aload_n 2, 1) := by decide +kernel
theorem d_St_takes_9 : decode prog_8_method_4_code 9 = .ok (.invokespecial 23, 3) := by decide +kernel
theorem d_St_takes_12 : decode prog_8_method_4_code 12 = .ok (.bipush 6, 2) := by decide +kernel
theorem d_St_takes_14 : decode prog_8_method_4_code 14 = .ok (.ixor, 1) := by decide +kernel
theorem d_St_takes_15 : decode prog_8_method_4_code 15 = .ok (.ireturn, 1) := by decide +kernel
theorem d_To_takes_0 : decode prog_11_method_4_code 0 = .ok (.bipush 70, 2) := by decide +kernel
theorem d_To_takes_2 : decode prog_11_method_4_code 2 = .ok (.aload_n 2, 1) := by decide +kernel
theorem d_To_takes_3 : decode prog_11_method_4_code 3 = .ok (.invokestatic 11, 3) := by decide +kernel
theorem d_To_takes_6 : decode prog_11_method_4_code 6 = .ok (.aload_n 0, 1) := by decide +kernel
theorem d_To_takes_7 : decode prog_11_method_4_code 7 = .ok (.iload_n 1, 1) := by decide +kernel
theorem d_To_takes_8 : decode prog_11_method_4_code 8 = .ok (.aload_n 2, 1) := by decide +kernel
theorem d_To_takes_9 : decode prog_11_method_4_code 9 = .ok (.invokespecial 17, 3) := by decide +kernel
theorem d_To_takes_12 : decode prog_11_method_4_code 12 = .ok (.aload_n 0, 1) := by decide +kernel
theorem d_To_takes_13 : decode prog_11_method_4_code 13 = .ok (.iconst 2, 1) := by decide +kernel
theorem d_To_takes_14 : decode prog_11_method_4_code 14 = .ok (.aload_n 2, 1) := by decide +kernel
theorem d_To_takes_15 : decode prog_11_method_4_code 15 = .ok (.invokespecial 21, 3) := by decide +kernel
theorem d_To_takes_18 : decode prog_11_method_4_code 18 = .ok (.iadd, 1) := by decide +kernel
theorem d_To_takes_19 : decode prog_11_method_4_code 19 = .ok (.ireturn, 1) := by decide +kernel
theorem d_Ma_takes_0 : decode prog_4_method_7_code 0 = .ok (.bipush 11, 2) := by decide +kernel
theorem d_Ma_takes_2 : decode prog_4_method_7_code 2 = .ok (.aload_n 2, 1) := by decide +kernel
theorem d_Ma_takes_3 : decode prog_4_method_7_code 3 = .ok (.invokestatic 16, 3) := by decide +kernel
theorem d_Ma_takes_6 : decode prog_4_method_7_code 6 = .ok (.aload_n 0, 1) := by decide +kernel
theorem d_Ma_takes_7 : decode prog_4_method_7_code 7 = .ok (.iload_n 1, 1) := by decide +kernel
theorem d_Ma_takes_8 : decode prog_4_method_7_code 8 = .ok (.aload_n 2, 1) := by decide +kernel
theorem d_Ma_takes_9 : decode prog_4_method_7_code 9 = .ok (.invokevirtual 20, 3) := by decide +kernel
theorem d_Ma_takes_12 : decode prog_4_method_7_code 12 = .ok (.aload_n 0, 1) := by decide +kernel
theorem d_Ma_takes_13 : decode prog_4_method_7_code 13 = .ok (.getfield 13, 3) := by decide +kernel
theorem d_Ma_takes_16 : decode prog_4_method_7_code 16 = .ok (.isub, 1) := by decide +kernel
theorem d_Ma_takes_17 : decode prog_4_method_7_code 17 = .ok (.ireturn, 1) := by decide +kernel
theorem d_Sl_tells_0 : decode prog_7_method_4_code 0 = .ok (.bipush 60, 2) := by decide +kernel
theorem d_Sl_tells_2 : decode prog_7_method_4_code 2 = .ok (.aload_n 2, 1) := by decide +kernel
theorem d_Sl_tells_3 : decode prog_7_method_4_code 3 = .ok (.invokestatic 13, 3) := by decide +kernel
theorem d_Sl_tells_6 : decode prog_7_method_4_code 6 = .ok (.aload_n 0, 1) := by decide +kernel
theorem d_Sl_tells_7 : decode prog_7_method_4_code 7 = .ok (.iload_n 1, 1) := by decide +kernel
theorem d_Sl_tells_8 : decode prog_7_method_4_code 8 = .ok (.aload_n 0, 1) := by decide +kernel
theorem d_Sl_tells_9 : decode prog_7_method_4_code 9 = .ok (.getfield 17, 3) := by decide +kernel
theorem d_Sl_tells_12 : decode prog_7_method_4_code 12 = .ok (.isub, 1) := by decide +kernel
theorem d_Sl_tells_13 : decode prog_7_method_4_code 13 = .ok (.aload_n 2, 1) := by decide +kernel
theorem d_Sl_tells_14 : decode prog_7_method_4_code 14 = .ok (.invokespecial 20, 3) := by decide +kernel
theorem d_Sl_tells_17 : decode prog_7_method_4_code 17 = .ok (.ireturn, 1) := by decide +kernel
theorem d_Ti_tells_0 : decode prog_10_method_4_code 0 = .ok (.bipush 40, 2) := by decide +kernel
theorem d_Ti_tells_2 : decode prog_10_method_4_code 2 = .ok (.aload_n 2, 1) := by decide +kernel
theorem d_Ti_tells_3 : decode prog_10_method_4_code 3 = .ok (.invokestatic 7, 3) := by decide +kernel
theorem d_Ti_tells_6 : decode prog_10_method_4_code 6 = .ok (.aload_n 0, 1) := by decide +kernel
theorem d_Ti_tells_7 : decode prog_10_method_4_code 7 = .ok (.iload_n 1, 1) := by decide +kernel
theorem d_Ti_tells_8 : decode prog_10_method_4_code 8 = .ok (.aload_n 2, 1) := by decide +kernel
theorem d_Ti_tells_9 : decode prog_10_method_4_code 9 = .ok (.invokespecial 13, 3) := by decide +kernel
theorem d_Ti_tells_12 : decode prog_10_method_4_code 12 = .ok (.aload_n 0, 1) := by decide +kernel
theorem d_Ti_tells_13 : decode prog_10_method_4_code 13 = .ok (.iconst 1, 1) := by decide +kernel
theorem d_Ti_tells_14 : decode prog_10_method_4_code 14 = .ok (.aload_n 2, 1) := by decide +kernel
theorem d_Ti_tells_15 : decode prog_10_method_4_code 15 = .ok (.invokevirtual 17, 3) := by decide +kernel
theorem d_Ti_tells_18 : decode prog_10_method_4_code 18 = .ok (.iadd, 1) := by decide +kernel
theorem d_Ti_tells_19 : decode prog_10_method_4_code 19 = .ok (.ireturn, 1) := by decide +kernel
theorem d_Ma_tells_0 : decode prog_4_method_8_code 0 = .ok (.bipush 12, 2) := by decide +kernel
theorem d_Ma_tells_2 : decode prog_4_method_8_code 2 = .ok (.aload_n 2, 1) := by decide +kernel
theorem d_Ma_tells_3 : decode prog_4_method_8_code 3 = .ok (.invokestatic 16, 3) := by decide +kernel
theorem d_Ma_tells_6 : decode prog_4_method_8_code 6 = .ok (.aload_n 0, 1) := by decide +kernel
theorem d_Ma_tells_7 : decode prog_4_method_8_code 7 = .ok (.iload_n 1, 1) := by decide +kernel
theorem d_Ma_tells_8 : decode prog_4_method_8_code 8 = .ok (.aload_n 2, 1) := by decide +kernel
theorem d_Ma_tells_9 : decode prog_4_method_8_code 9 = .ok (.invokevirtual 24, 3) := by decide +kernel
theorem d_Ma_tells_12 : decode prog_4_method_8_code 12 = .ok (.iconst 2, 1) := by decide +kernel
theorem d_Ma_tells_13 : decode prog_4_method_8_code 13 = .ok (.imul, 1) := by decide +kernel
theorem d_Ma_tells_14 : decode prog_4_method_8_code 14 = .ok (.ireturn, 1) := by decide +kernel
theorem d_TC_trace_0 : decode prog_1_method_36_code 0 = .ok (.iload_n 1, 1) := by decide +kernel
theorem d_TC_trace_1 : decode prog_1_method_36_code 1 = .ok (.ifCond .lt 19, 3) := by decide +kernel
theorem d_TC_trace_4 : decode prog_1_method_36_code 4 = .ok (.iload_n 1, 1) := by decide +kernel
theorem d_TC_trace_5 : decode prog_1_method_36_code 5 = .ok (.bipush 20, 2) := by decide +kernel
theorem d_TC_trace_7 : decode prog_1_method_36_code 7 = .ok (.if_icmp .ge 13, 3) := by decide +kernel
theorem d_TC_trace_10 : decode prog_1_method_36_code 10 = .ok (.iload_n 1, 1) := by decide +kernel
theorem d_TC_trace_11 : decode prog_1_method_36_code 11 = .ok (.aload_n 0, 1) := by decide +kernel
theorem d_TC_trace_12 : decode prog_1_method_36_code 12 = .ok (.getfield 57, 3) := by decide +kernel
theorem d_TC_trace_15 : decode prog_1_method_36_code 15 = .ok (.iconst 0, 1) := by decide +kernel
theorem d_TC_trace_16 : decode prog_1_method_36_code 16 = .ok (.iaload, 1) := by decide +kernel
theorem d_TC_trace_17 : decode prog_1_method_36_code 17 = .ok (.if_icmp .lt 5, 3) := by decide +kernel
theorem d_TC_trace_20 : decode prog_1_method_36_code 20 = .ok (.iconst (-1), 1) := by decide +kernel
theorem d_TC_trace_21 : decode prog_1_method_36_code 21 = .ok (.ireturn, 1) := by decide +kernel
theorem d_TC_trace_22 : decode prog_1_method_36_code 22 = .ok (.aload_n 0, 1) := by decide +kernel
theorem d_TC_trace_23 : decode prog_1_method_36_code 23 = .ok (.getfield 57, 3) := by decide +kernel
theorem d_TC_trace_26 : decode prog_1_method_36_code 26 = .ok (.iconst 1, 1) := by decide +kernel
theorem d_TC_trace_27 : decode prog_1_method_36_code 27 = .ok (.iload_n 1, 1) := by decide +kernel
theorem d_TC_trace_28 : decode prog_1_method_36_code 28 = .ok (.iadd, 1) := by decide +kernel
theorem d_TC_trace_29 : decode prog_1_method_36_code 29 = .ok (.iaload, 1) := by decide +kernel
theorem d_TC_trace_30 : decode prog_1_method_36_code 30 = .ok (.ireturn, 1) := by decide +kernel
theorem d_TC_taken_0 : decode prog_1_method_37_code 0 = .ok (.iload_n 2, 1) := by decide +kernel
theorem d_TC_taken_1 : decode prog_1_method_37_code 1 = .ok (.ifCond .lt 11, 3) := by decide +kernel
theorem d_TC_taken_4 : decode prog_1_method_37_code 4 = .ok (.iload_n 2, 1) := by decide +kernel
theorem d_TC_taken_5 : decode prog_1_method_37_code 5 = .ok (.getstatic 64, 3) := by decide +kernel
theorem d_TC_taken_8 : decode prog_1_method_37_code 8 = .ok (.arraylength, 1) := by decide +kernel
theorem d_TC_taken_9 : decode prog_1_method_37_code 9 = .ok (.if_icmp .lt 6, 3) := by decide +kernel
theorem d_TC_taken_12 : decode prog_1_method_37_code 12 = .ok (.bipush (-2), 2) := by decide +kernel
theorem d_TC_taken_14 : decode prog_1_method_37_code 14 = .ok (.ireturn, 1) := by decide +kernel
theorem d_TC_taken_15 : decode prog_1_method_37_code 15 = .ok (.aload_n 0, 1) := by decide +kernel
theorem d_TC_taken_16 : decode prog_1_method_37_code 16 = .ok (.iload_n 1, 1) := by decide +kernel
theorem d_TC_taken_17 : decode prog_1_method_37_code 17 = .ok (.invokevirtual 97, 3) := by decide +kernel
theorem d_TC_taken_20 : decode prog_1_method_37_code 20 = .ok (.ifCond .eq 6, 3) := by decide +kernel
theorem d_TC_taken_23 : decode prog_1_method_37_code 23 = .ok (.bipush (-11), 2) := by decide +kernel
theorem d_TC_taken_25 : decode prog_1_method_37_code 25 = .ok (.ireturn, 1) := by decide +kernel
theorem d_TC_taken_26 : decode prog_1_method_37_code 26 = .ok (.aload_n 0, 1) := by decide +kernel
theorem d_TC_taken_27 : decode prog_1_method_37_code 27 = .ok (.getfield 24, 3) := by decide +kernel
theorem d_TC_taken_30 : decode prog_1_method_37_code 30 = .ok (.getfield 101, 3) := by decide +kernel
theorem d_TC_taken_33 : decode prog_1_method_37_code 33 = .ok (.iload_n 1, 1) := by decide +kernel
theorem d_TC_taken_34 : decode prog_1_method_37_code 34 = .ok (.aaload, 1) := by decide +kernel
theorem d_TC_taken_35 : decode prog_1_method_37_code 35 = .ok (.invokevirtual 105, 3) := by decide +kernel
theorem d_TC_taken_38 : decode prog_1_method_37_code 38 = .ok (.istore_n 3, 1) := by decide +kernel
theorem d_TC_taken_39 : decode prog_1_method_37_code 39 = .ok (.iload_n 3, 1) := by decide +kernel
theorem d_TC_taken_40 : decode prog_1_method_37_code 40 = .ok (.istore 4, 2) := by decide +kernel
theorem d_TC_taken_42 : decode prog_1_method_37_code 42 = .ok (.iconst 0, 1) := by decide +kernel
theorem d_TC_taken_43 : decode prog_1_method_37_code 43 = .ok (.istore 5, 2) := by decide +kernel
theorem d_TC_taken_45 : decode prog_1_method_37_code 45 = .ok (.iload 5, 2) := by decide +kernel
theorem d_TC_taken_47 : decode prog_1_method_37_code 47 = .ok (.getstatic 64, 3) := by decide +kernel
theorem d_TC_taken_50 : decode prog_1_method_37_code 50 = .ok (.arraylength, 1) := by decide +kernel
theorem d_TC_taken_51 : decode prog_1_method_37_code 51 = .ok (.if_icmp .ge 39, 3) := by decide +kernel
theorem d_TC_taken_54 : decode prog_1_method_37_code 54 = .ok (.iload 4, 2) := by decide +kernel
theorem d_TC_taken_56 : decode prog_1_method_37_code 56 = .ok (.ifCond .lt 34, 3) := by decide +kernel
theorem d_TC_taken_59 : decode prog_1_method_37_code 59 = .ok (.iload 4, 2) := by decide +kernel
theorem d_TC_taken_61 : decode prog_1_method_37_code 61 = .ok (.getstatic 64, 3) := by decide +kernel
theorem d_TC_taken_64 : decode prog_1_method_37_code 64 = .ok (.arraylength, 1) := by decide +kernel
theorem d_TC_taken_65 : decode prog_1_method_37_code 65 = .ok (.if_icmp .ge 25, 3) := by decide +kernel
theorem d_TC_taken_68 : decode prog_1_method_37_code 68 = .ok (.iload 4, 2) := by decide +kernel
theorem d_TC_taken_70 : decode prog_1_method_37_code 70 = .ok (.iload_n 2, 1) := by decide +kernel
theorem d_TC_taken_71 : decode prog_1_method_37_code 71 = .ok (.if_icmp .ne 5, 3) := by decide +kernel
theorem d_TC_taken_74 : decode prog_1_method_37_code 74 = .ok (.iload_n 3, 1) := by decide +kernel
theorem d_TC_taken_75 : decode prog_1_method_37_code 75 = .ok (.ireturn, 1) := by decide +kernel
theorem d_TC_taken_76 : decode prog_1_method_37_code 76 = .ok (.getstatic 64, 3) := by decide +kernel
theorem d_TC_taken_79 : decode prog_1_method_37_code 79 = .ok (.iload 4, 2) := by decide +kernel
theorem d_TC_taken_81 : decode prog_1_method_37_code 81 = .ok (.iaload, 1) := by decide +kernel
theorem d_TC_taken_82 : decode prog_1_method_37_code 82 = .ok (.istore 4, 2) := by decide +kernel
theorem d_TC_taken_84 : decode prog_1_method_37_code 84 = .ok (.iinc 5 1, 3) := by decide +kernel
theorem d_TC_taken_87 : decode prog_1_method_37_code 87 = .ok (.goto (-42), 3) := by decide +kernel
theorem d_TC_taken_90 : decode prog_1_method_37_code 90 = .ok (.bipush (-12), 2) := by decide +kernel
theorem d_TC_taken_92 : decode prog_1_method_37_code 92 = .ok (.ireturn, 1) := by decide +kernel
theorem d_TC_count_0 : decode prog_1_method_38_code 0 = .ok (.iload_n 1, 1) := by decide +kernel
theorem d_TC_count_1 : decode prog_1_method_38_code 1 = .ok (.tableswitch 80 0 5 #[39, 47, 52, 60, 68, 73], 39) := by decide +kernel
theorem d_TC_count_40 : decode prog_1_method_38_code 40 = .ok (.aload_n 0, 1) := by decide +kernel
theorem d_TC_count_41 : decode prog_1_method_38_code 41 = .ok (.getfield 24, 3) := by decide +kernel
theorem d_TC_count_44 : decode prog_1_method_38_code 44 = .ok (.getfield 67, 3) := by decide +kernel
theorem d_TC_count_47 : decode prog_1_method_38_code 47 = .ok (.ireturn, 1) := by decide +kernel
theorem d_TC_count_48 : decode prog_1_method_38_code 48 = .ok (.aload_n 0, 1) := by decide +kernel
theorem d_TC_count_49 : decode prog_1_method_38_code 49 = .ok (.getfield 143, 3) := by decide +kernel
theorem d_TC_count_52 : decode prog_1_method_38_code 52 = .ok (.ireturn, 1) := by decide +kernel
theorem d_TC_count_53 : decode prog_1_method_38_code 53 = .ok (.aload_n 0, 1) := by decide +kernel
theorem d_TC_count_54 : decode prog_1_method_38_code 54 = .ok (.getfield 24, 3) := by decide +kernel
theorem d_TC_count_57 : decode prog_1_method_38_code 57 = .ok (.getfield 240, 3) := by decide +kernel
theorem d_TC_count_60 : decode prog_1_method_38_code 60 = .ok (.ireturn, 1) := by decide +kernel
theorem d_TC_count_61 : decode prog_1_method_38_code 61 = .ok (.aload_n 0, 1) := by decide +kernel
theorem d_TC_count_62 : decode prog_1_method_38_code 62 = .ok (.getfield 24, 3) := by decide +kernel
theorem d_TC_count_65 : decode prog_1_method_38_code 65 = .ok (.getfield 261, 3) := by decide +kernel
theorem d_TC_count_68 : decode prog_1_method_38_code 68 = .ok (.ireturn, 1) := by decide +kernel
theorem d_TC_count_69 : decode prog_1_method_38_code 69 = .ok (.aload_n 0, 1) := by decide +kernel
theorem d_TC_count_70 : decode prog_1_method_38_code 70 = .ok (.getfield 140, 3) := by decide +kernel
theorem d_TC_count_73 : decode prog_1_method_38_code 73 = .ok (.ireturn, 1) := by decide +kernel
theorem d_TC_count_74 : decode prog_1_method_38_code 74 = .ok (.aload_n 0, 1) := by decide +kernel
theorem d_TC_count_75 : decode prog_1_method_38_code 75 = .ok (.getfield 57, 3) := by decide +kernel
theorem d_TC_count_78 : decode prog_1_method_38_code 78 = .ok (.iconst 0, 1) := by decide +kernel
theorem d_TC_count_79 : decode prog_1_method_38_code 79 = .ok (.iaload, 1) := by decide +kernel
theorem d_TC_count_80 : decode prog_1_method_38_code 80 = .ok (.ireturn, 1) := by decide +kernel
theorem d_TC_count_81 : decode prog_1_method_38_code 81 = .ok (.bipush (-2), 2) := by decide +kernel
theorem d_TC_count_83 : decode prog_1_method_38_code 83 = .ok (.ireturn, 1) := by decide +kernel
theorem d_TC_tape_0 : decode prog_1_method_39_code 0 = .ok (.iload_n 1, 1) := by decide +kernel
theorem d_TC_tape_1 : decode prog_1_method_39_code 1 = .ok (.invokestatic 267, 3) := by decide +kernel
theorem d_TC_tape_4 : decode prog_1_method_39_code 4 = .ok (.ifCond .eq 5, 3) := by decide +kernel
theorem d_TC_tape_7 : decode prog_1_method_39_code 7 = .ok (.iconst (-1), 1) := by decide +kernel
theorem d_TC_tape_8 : decode prog_1_method_39_code 8 = .ok (.ireturn, 1) := by decide +kernel
theorem d_TC_tape_9 : decode prog_1_method_39_code 9 = .ok (.iload_n 2, 1) := by decide +kernel
theorem d_TC_tape_10 : decode prog_1_method_39_code 10 = .ok (.iconst (-1), 1) := by decide +kernel
theorem d_TC_tape_11 : decode prog_1_method_39_code 11 = .ok (.if_icmp .lt 8, 3) := by decide +kernel
theorem d_TC_tape_14 : decode prog_1_method_39_code 14 = .ok (.iload_n 2, 1) := by decide +kernel
theorem d_TC_tape_15 : decode prog_1_method_39_code 15 = .ok (.iconst 4, 1) := by decide +kernel
theorem d_TC_tape_16 : decode prog_1_method_39_code 16 = .ok (.if_icmp .le 6, 3) := by decide +kernel
theorem d_TC_tape_19 : decode prog_1_method_39_code 19 = .ok (.bipush (-2), 2) := by decide +kernel
theorem d_TC_tape_21 : decode prog_1_method_39_code 21 = .ok (.ireturn, 1) := by decide +kernel
theorem d_TC_tape_22 : decode prog_1_method_39_code 22 = .ok (.iload_n 2, 1) := by decide +kernel
theorem d_TC_tape_23 : decode prog_1_method_39_code 23 = .ok (.iconst (-1), 1) := by decide +kernel
theorem d_TC_tape_24 : decode prog_1_method_39_code 24 = .ok (.if_icmp .ne 16, 3) := by decide +kernel
theorem d_TC_tape_27 : decode prog_1_method_39_code 27 = .ok (.aload_n 0, 1) := by decide +kernel
theorem d_TC_tape_28 : decode prog_1_method_39_code 28 = .ok (.getfield 52, 3) := by decide +kernel
theorem d_TC_tape_31 : decode prog_1_method_39_code 31 = .ok (.iload_n 1, 1) := by decide +kernel
theorem d_TC_tape_32 : decode prog_1_method_39_code 32 = .ok (.aaload, 1) := by decide +kernel
theorem d_TC_tape_33 : decode prog_1_method_39_code 33 = .ok (.iload_n 2, 1) := by decide +kernel
theorem d_TC_tape_34 : decode prog_1_method_39_code 34 = .ok (.iconst 0, 1) := by decide +kernel
theorem d_TC_tape_35 : decode prog_1_method_39_code 35 = .ok (.invokevirtual 300, 3) := by decide +kernel
theorem d_TC_tape_38 : decode prog_1_method_39_code 38 = .ok (.iconst 1, 1) := by decide +kernel
theorem d_TC_tape_39 : decode prog_1_method_39_code 39 = .ok (.ireturn, 1) := by decide +kernel
theorem d_TC_tape_40 : decode prog_1_method_39_code 40 = .ok (.iload_n 3, 1) := by decide +kernel
theorem d_TC_tape_41 : decode prog_1_method_39_code 41 = .ok (.bipush 60, 2) := by decide +kernel
theorem d_TC_tape_43 : decode prog_1_method_39_code 43 = .ok (.if_icmp .le 6, 3) := by decide +kernel
theorem d_TC_tape_46 : decode prog_1_method_39_code 46 = .ok (.bipush (-2), 2) := by decide +kernel
theorem d_TC_tape_48 : decode prog_1_method_39_code 48 = .ok (.ireturn, 1) := by decide +kernel
theorem d_TC_tape_49 : decode prog_1_method_39_code 49 = .ok (.iload_n 3, 1) := by decide +kernel
theorem d_TC_tape_50 : decode prog_1_method_39_code 50 = .ok (.ifCond .ge 6, 3) := by decide +kernel
theorem d_TC_tape_53 : decode prog_1_method_39_code 53 = .ok (.bipush (-14), 2) := by decide +kernel
theorem d_TC_tape_55 : decode prog_1_method_39_code 55 = .ok (.ireturn, 1) := by decide +kernel
theorem d_TC_tape_56 : decode prog_1_method_39_code 56 = .ok (.aload_n 0, 1) := by decide +kernel
theorem d_TC_tape_57 : decode prog_1_method_39_code 57 = .ok (.getfield 52, 3) := by decide +kernel
theorem d_TC_tape_60 : decode prog_1_method_39_code 60 = .ok (.iload_n 1, 1) := by decide +kernel
theorem d_TC_tape_61 : decode prog_1_method_39_code 61 = .ok (.aaload, 1) := by decide +kernel
theorem d_TC_tape_62 : decode prog_1_method_39_code 62 = .ok (.iload_n 2, 1) := by decide +kernel
theorem d_TC_tape_63 : decode prog_1_method_39_code 63 = .ok (.iload_n 3, 1) := by decide +kernel
theorem d_TC_tape_64 : decode prog_1_method_39_code 64 = .ok (.invokevirtual 300, 3) := by decide +kernel
theorem d_TC_tape_67 : decode prog_1_method_39_code 67 = .ok (.iconst 1, 1) := by decide +kernel
theorem d_TC_tape_68 : decode prog_1_method_39_code 68 = .ok (.ireturn, 1) := by decide +kernel
theorem d_Ta_become_0 : decode prog_9_method_2_code 0 = .ok (.aload_n 0, 1) := by decide +kernel
theorem d_Ta_become_1 : decode prog_9_method_2_code 1 = .ok (.iload_n 1, 1) := by decide +kernel
theorem d_Ta_become_2 : decode prog_9_method_2_code 2 = .ok (.putfield 15, 3) := by decide +kernel
theorem d_Ta_become_5 : decode prog_9_method_2_code 5 = .ok (.aload_n 0, 1) := by decide +kernel
theorem d_Ta_become_6 : decode prog_9_method_2_code 6 = .ok (.iload_n 2, 1) := by decide +kernel
theorem d_Ta_become_7 : decode prog_9_method_2_code 7 = .ok (.putfield 19, 3) := by decide +kernel
theorem d_Ta_become_10 : decode prog_9_method_2_code 10 = .ok (.aload_n 0, 1) := by decide +kernel
theorem d_Ta_become_11 : decode prog_9_method_2_code 11 = .ok (.getfield 9, 3) := by decide +kernel
theorem d_Ta_become_14 : decode prog_9_method_2_code 14 = .ok (.lconst 0, 1) := by decide +kernel
theorem d_Ta_become_15 : decode prog_9_method_2_code 15 = .ok (.invokestatic 22, 3) := by decide +kernel
theorem d_Ta_become_18 : decode prog_9_method_2_code 18 = .ok (.return_, 1) := by decide +kernel
theorem d_Ar_fill_AJJ_0 : decode prog_21_method_101_code 0 = .ok (.iconst 0, 1) := by decide +kernel
theorem d_Ar_fill_AJJ_1 : decode prog_21_method_101_code 1 = .ok (.istore_n 3, 1) := by decide +kernel
theorem d_Ar_fill_AJJ_2 : decode prog_21_method_101_code 2 = .ok (.aload_n 0, 1) := by decide +kernel
theorem d_Ar_fill_AJJ_3 : decode prog_21_method_101_code 3 = .ok (.arraylength, 1) := by decide +kernel
theorem d_Ar_fill_AJJ_4 : decode prog_21_method_101_code 4 = .ok (.istore 4, 2) := by decide +kernel
theorem d_Ar_fill_AJJ_6 : decode prog_21_method_101_code 6 = .ok (.iload_n 3, 1) := by decide +kernel
theorem d_Ar_fill_AJJ_7 : decode prog_21_method_101_code 7 = .ok (.iload 4, 2) := by decide +kernel
theorem d_Ar_fill_AJJ_9 : decode prog_21_method_101_code 9 = .ok (.if_icmp .ge 13, 3) := by decide +kernel
theorem d_Ar_fill_AJJ_12 : decode prog_21_method_101_code 12 = .ok (.aload_n 0, 1) := by decide +kernel
theorem d_Ar_fill_AJJ_13 : decode prog_21_method_101_code 13 = .ok (.iload_n 3, 1) := by decide +kernel
theorem d_Ar_fill_AJJ_14 : decode prog_21_method_101_code 14 = .ok (.lload_n 1, 1) := by decide +kernel
theorem d_Ar_fill_AJJ_15 : decode prog_21_method_101_code 15 = .ok (.lastore, 1) := by decide +kernel
theorem d_Ar_fill_AJJ_16 : decode prog_21_method_101_code 16 = .ok (.iinc 3 1, 3) := by decide +kernel
theorem d_Ar_fill_AJJ_19 : decode prog_21_method_101_code 19 = .ok (.goto (-13), 3) := by decide +kernel
theorem d_Ar_fill_AJJ_22 : decode prog_21_method_101_code 22 = .ok (.return_, 1) := by decide +kernel
theorem d_TC_item_0 : decode prog_1_method_40_code 0 = .ok (.iload_n 1, 1) := by decide +kernel
theorem d_TC_item_1 : decode prog_1_method_40_code 1 = .ok (.invokestatic 267, 3) := by decide +kernel
theorem d_TC_item_4 : decode prog_1_method_40_code 4 = .ok (.ifCond .eq 5, 3) := by decide +kernel
theorem d_TC_item_7 : decode prog_1_method_40_code 7 = .ok (.iconst (-1), 1) := by decide +kernel
theorem d_TC_item_8 : decode prog_1_method_40_code 8 = .ok (.ireturn, 1) := by decide +kernel
theorem d_TC_item_9 : decode prog_1_method_40_code 9 = .ok (.aload_n 0, 1) := by decide +kernel
theorem d_TC_item_10 : decode prog_1_method_40_code 10 = .ok (.getfield 52, 3) := by decide +kernel
theorem d_TC_item_13 : decode prog_1_method_40_code 13 = .ok (.iload_n 1, 1) := by decide +kernel
theorem d_TC_item_14 : decode prog_1_method_40_code 14 = .ok (.aaload, 1) := by decide +kernel
theorem d_TC_item_15 : decode prog_1_method_40_code 15 = .ok (.astore 5, 2) := by decide +kernel
theorem d_TC_item_17 : decode prog_1_method_40_code 17 = .ok (.aload 5, 2) := by decide +kernel
theorem d_TC_item_19 : decode prog_1_method_40_code 19 = .ok (.getfield 270, 3) := by decide +kernel
theorem d_TC_item_22 : decode prog_1_method_40_code 22 = .ok (.iconst (-1), 1) := by decide +kernel
theorem d_TC_item_23 : decode prog_1_method_40_code 23 = .ok (.if_icmp .ne 6, 3) := by decide +kernel
theorem d_TC_item_26 : decode prog_1_method_40_code 26 = .ok (.bipush (-11), 2) := by decide +kernel
theorem d_TC_item_28 : decode prog_1_method_40_code 28 = .ok (.ireturn, 1) := by decide +kernel
theorem d_TC_item_29 : decode prog_1_method_40_code 29 = .ok (.iload_n 2, 1) := by decide +kernel
theorem d_TC_item_30 : decode prog_1_method_40_code 30 = .ok (.ifCond .lt 12, 3) := by decide +kernel
theorem d_TC_item_33 : decode prog_1_method_40_code 33 = .ok (.iload_n 2, 1) := by decide +kernel
theorem d_TC_item_34 : decode prog_1_method_40_code 34 = .ok (.aload 5, 2) := by decide +kernel
theorem d_TC_item_36 : decode prog_1_method_40_code 36 = .ok (.getfield 273, 3) := by decide +kernel
theorem d_TC_item_39 : decode prog_1_method_40_code 39 = .ok (.if_icmp .lt 6, 3) := by decide +kernel
theorem d_TC_item_42 : decode prog_1_method_40_code 42 = .ok (.bipush (-13), 2) := by decide +kernel
theorem d_TC_item_44 : decode prog_1_method_40_code 44 = .ok (.ireturn, 1) := by decide +kernel
theorem d_TC_item_45 : decode prog_1_method_40_code 45 = .ok (.aload 5, 2) := by decide +kernel
theorem d_TC_item_47 : decode prog_1_method_40_code 47 = .ok (.getfield 276, 3) := by decide +kernel
theorem d_TC_item_50 : decode prog_1_method_40_code 50 = .ok (.iload_n 2, 1) := by decide +kernel
theorem d_TC_item_51 : decode prog_1_method_40_code 51 = .ok (.aload 5, 2) := by decide +kernel
theorem d_TC_item_53 : decode prog_1_method_40_code 53 = .ok (.lload_n 3, 1) := by decide +kernel
theorem d_TC_item_54 : decode prog_1_method_40_code 54 = .ok (.invokevirtual 303, 3) := by decide +kernel
theorem d_TC_item_57 : decode prog_1_method_40_code 57 = .ok (.lastore, 1) := by decide +kernel
theorem d_TC_item_58 : decode prog_1_method_40_code 58 = .ok (.iconst 1, 1) := by decide +kernel
theorem d_TC_item_59 : decode prog_1_method_40_code 59 = .ok (.ireturn, 1) := by decide +kernel
theorem d_Ta_fit_0 : decode prog_9_method_3_code 0 = .ok (.aload_n 0, 1) := by decide +kernel
theorem d_Ta_fit_1 : decode prog_9_method_3_code 1 = .ok (.getfield 15, 3) := by decide +kernel
theorem d_Ta_fit_4 : decode prog_9_method_3_code 4 = .ok (.tableswitch 62 0 4 #[36, 41, 46, 62, 50], 36) := by decide +kernel
theorem d_Ta_fit_40 : decode prog_9_method_3_code 40 = .ok (.lload_n 1, 1) := by decide +kernel
theorem d_Ta_fit_41 : decode prog_9_method_3_code 41 = .ok (.l2i, 1) := by decide +kernel
theorem d_Ta_fit_42 : decode prog_9_method_3_code 42 = .ok (.i2b, 1) := by decide +kernel
theorem d_Ta_fit_43 : decode prog_9_method_3_code 43 = .ok (.i2l, 1) := by decide +kernel
theorem d_Ta_fit_44 : decode prog_9_method_3_code 44 = .ok (.lreturn, 1) := by decide +kernel
theorem d_Ta_fit_45 : decode prog_9_method_3_code 45 = .ok (.lload_n 1, 1) := by decide +kernel
theorem d_Ta_fit_46 : decode prog_9_method_3_code 46 = .ok (.l2i, 1) := by decide +kernel
theorem d_Ta_fit_47 : decode prog_9_method_3_code 47 = .ok (.i2s, 1) := by decide +kernel
theorem d_Ta_fit_48 : decode prog_9_method_3_code 48 = .ok (.i2l, 1) := by decide +kernel
theorem d_Ta_fit_49 : decode prog_9_method_3_code 49 = .ok (.lreturn, 1) := by decide +kernel
theorem d_Ta_fit_50 : decode prog_9_method_3_code 50 = .ok (.lload_n 1, 1) := by decide +kernel
theorem d_Ta_fit_51 : decode prog_9_method_3_code 51 = .ok (.l2i, 1) := by decide +kernel
theorem d_Ta_fit_52 : decode prog_9_method_3_code 52 = .ok (.i2l, 1) := by decide +kernel
theorem d_Ta_fit_53 : decode prog_9_method_3_code 53 = .ok (.lreturn, 1) := by decide +kernel
theorem d_Ta_fit_54 : decode prog_9_method_3_code 54 = .ok (.lload_n 1, 1) := by decide +kernel
theorem d_Ta_fit_55 : decode prog_9_method_3_code 55 = .ok (.lconst 0, 1) := by decide +kernel
theorem d_Ta_fit_56 : decode prog_9_method_3_code 56 = .ok (.lcmp, 1) := by decide +kernel
theorem d_Ta_fit_57 : decode prog_9_method_3_code 57 = .ok (.ifCond .eq 7, 3) := by decide +kernel
theorem d_Ta_fit_60 : decode prog_9_method_3_code 60 = .ok (.lconst 1, 1) := by decide +kernel
theorem d_Ta_fit_61 : decode prog_9_method_3_code 61 = .ok (.goto 4, 3) := by decide +kernel
theorem d_Ta_fit_64 : decode prog_9_method_3_code 64 = .ok (.lconst 0, 1) := by decide +kernel
theorem d_Ta_fit_65 : decode prog_9_method_3_code 65 = .ok (.lreturn, 1) := by decide +kernel
theorem d_Ta_fit_66 : decode prog_9_method_3_code 66 = .ok (.lload_n 1, 1) := by decide +kernel
theorem d_Ta_fit_67 : decode prog_9_method_3_code 67 = .ok (.lreturn, 1) := by decide +kernel
theorem d_TC_read_0 : decode prog_1_method_41_code 0 = .ok (.iload_n 1, 1) := by decide +kernel
theorem d_TC_read_1 : decode prog_1_method_41_code 1 = .ok (.invokestatic 267, 3) := by decide +kernel
theorem d_TC_read_4 : decode prog_1_method_41_code 4 = .ok (.ifCond .eq 7, 3) := by decide +kernel
theorem d_TC_read_7 : decode prog_1_method_41_code 7 = .ok (.ldc2_w 255, 3) := by decide +kernel
theorem d_TC_read_10 : decode prog_1_method_41_code 10 = .ok (.lreturn, 1) := by decide +kernel
theorem d_TC_read_11 : decode prog_1_method_41_code 11 = .ok (.aload_n 0, 1) := by decide +kernel
theorem d_TC_read_12 : decode prog_1_method_41_code 12 = .ok (.getfield 52, 3) := by decide +kernel
theorem d_TC_read_15 : decode prog_1_method_41_code 15 = .ok (.iload_n 1, 1) := by decide +kernel
theorem d_TC_read_16 : decode prog_1_method_41_code 16 = .ok (.aaload, 1) := by decide +kernel
theorem d_TC_read_17 : decode prog_1_method_41_code 17 = .ok (.astore_n 3, 1) := by decide +kernel
theorem d_TC_read_18 : decode prog_1_method_41_code 18 = .ok (.iload_n 2, 1) := by decide +kernel
theorem d_TC_read_19 : decode prog_1_method_41_code 19 = .ok (.ifCond .lt 11, 3) := by decide +kernel
theorem d_TC_read_22 : decode prog_1_method_41_code 22 = .ok (.iload_n 2, 1) := by decide +kernel
theorem d_TC_read_23 : decode prog_1_method_41_code 23 = .ok (.aload_n 3, 1) := by decide +kernel
theorem d_TC_read_24 : decode prog_1_method_41_code 24 = .ok (.getfield 273, 3) := by decide +kernel
theorem d_TC_read_27 : decode prog_1_method_41_code 27 = .ok (.if_icmp .lt 7, 3) := by decide +kernel
theorem d_TC_read_30 : decode prog_1_method_41_code 30 = .ok (.ldc2_w 255, 3) := by decide +kernel
theorem d_TC_read_33 : decode prog_1_method_41_code 33 = .ok (.lreturn, 1) := by decide +kernel
theorem d_TC_read_34 : decode prog_1_method_41_code 34 = .ok (.aload_n 3, 1) := by decide +kernel
theorem d_TC_read_35 : decode prog_1_method_41_code 35 = .ok (.getfield 276, 3) := by decide +kernel
theorem d_TC_read_38 : decode prog_1_method_41_code 38 = .ok (.iload_n 2, 1) := by decide +kernel
theorem d_TC_read_39 : decode prog_1_method_41_code 39 = .ok (.laload, 1) := by decide +kernel
theorem d_TC_read_40 : decode prog_1_method_41_code 40 = .ok (.lreturn, 1) := by decide +kernel
theorem d_TC_shift_0 : decode prog_1_method_42_code 0 = .ok (.iload_n 1, 1) := by decide +kernel
theorem d_TC_shift_1 : decode prog_1_method_42_code 1 = .ok (.invokestatic 267, 3) := by decide +kernel
theorem d_TC_shift_4 : decode prog_1_method_42_code 4 = .ok (.ifCond .ne 10, 3) := by decide +kernel
theorem d_TC_shift_7 : decode prog_1_method_42_code 7 = .ok (.iload_n 3, 1) := by decide +kernel
theorem d_TC_shift_8 : decode prog_1_method_42_code 8 = .ok (.invokestatic 267, 3) := by decide +kernel
theorem d_TC_shift_11 : decode prog_1_method_42_code 11 = .ok (.ifCond .eq 5, 3) := by decide +kernel
theorem d_TC_shift_14 : decode prog_1_method_42_code 14 = .ok (.iconst (-1), 1) := by decide +kernel
theorem d_TC_shift_15 : decode prog_1_method_42_code 15 = .ok (.ireturn, 1) := by decide +kernel
theorem d_TC_shift_16 : decode prog_1_method_42_code 16 = .ok (.aload_n 0, 1) := by decide +kernel
theorem d_TC_shift_17 : decode prog_1_method_42_code 17 = .ok (.getfield 52, 3) := by decide +kernel
theorem d_TC_shift_20 : decode prog_1_method_42_code 20 = .ok (.iload_n 1, 1) := by decide +kernel
theorem d_TC_shift_21 : decode prog_1_method_42_code 21 = .ok (.aaload, 1) := by decide +kernel
theorem d_TC_shift_22 : decode prog_1_method_42_code 22 = .ok (.astore 6, 2) := by decide +kernel
theorem d_TC_shift_24 : decode prog_1_method_42_code 24 = .ok (.aload_n 0, 1) := by decide +kernel
theorem d_TC_shift_25 : decode prog_1_method_42_code 25 = .ok (.getfield 52, 3) := by decide +kernel
theorem d_TC_shift_28 : decode prog_1_method_42_code 28 = .ok (.iload_n 3, 1) := by decide +kernel
theorem d_TC_shift_29 : decode prog_1_method_42_code 29 = .ok (.aaload, 1) := by decide +kernel
theorem d_TC_shift_30 : decode prog_1_method_42_code 30 = .ok (.astore 7, 2) := by decide +kernel
theorem d_TC_shift_32 : decode prog_1_method_42_code 32 = .ok (.aload 6, 2) := by decide +kernel
theorem d_TC_shift_34 : decode prog_1_method_42_code 34 = .ok (.getfield 270, 3) := by decide +kernel
theorem d_TC_shift_37 : decode prog_1_method_42_code 37 = .ok (.iconst (-1), 1) := by decide +kernel
theorem d_TC_shift_38 : decode prog_1_method_42_code 38 = .ok (.if_icmp .eq 12, 3) := by decide +kernel
theorem d_TC_shift_41 : decode prog_1_method_42_code 41 = .ok (.aload 7, 2) := by decide +kernel
theorem d_TC_shift_43 : decode prog_1_method_42_code 43 = .ok (.getfield 270, 3) := by decide +kernel
theorem d_TC_shift_46 : decode prog_1_method_42_code 46 = .ok (.iconst (-1), 1) := by decide +kernel
theorem d_TC_shift_47 : decode prog_1_method_42_code 47 = .ok (.if_icmp .ne 6, 3) := by decide +kernel
theorem d_TC_shift_50 : decode prog_1_method_42_code 50 = .ok (.bipush (-11), 2) := by decide +kernel
theorem d_TC_shift_52 : decode prog_1_method_42_code 52 = .ok (.ireturn, 1) := by decide +kernel
theorem d_TC_shift_53 : decode prog_1_method_42_code 53 = .ok (.aload 6, 2) := by decide +kernel
theorem d_TC_shift_55 : decode prog_1_method_42_code 55 = .ok (.getfield 270, 3) := by decide +kernel
theorem d_TC_shift_58 : decode prog_1_method_42_code 58 = .ok (.aload 7, 2) := by decide +kernel
theorem d_TC_shift_60 : decode prog_1_method_42_code 60 = .ok (.getfield 270, 3) := by decide +kernel
theorem d_TC_shift_63 : decode prog_1_method_42_code 63 = .ok (.if_icmp .eq 6, 3) := by decide +kernel
theorem d_TC_shift_66 : decode prog_1_method_42_code 66 = .ok (.bipush (-12), 2) := by decide +kernel
theorem d_TC_shift_68 : decode prog_1_method_42_code 68 = .ok (.ireturn, 1) := by decide +kernel
theorem d_TC_shift_69 : decode prog_1_method_42_code 69 = .ok (.aload 6, 2) := by decide +kernel
theorem d_TC_shift_71 : decode prog_1_method_42_code 71 = .ok (.iload_n 2, 1) := by decide +kernel
theorem d_TC_shift_72 : decode prog_1_method_42_code 72 = .ok (.iload 5, 2) := by decide +kernel
theorem d_TC_shift_74 : decode prog_1_method_42_code 74 = .ok (.invokevirtual 307, 3) := by decide +kernel
theorem d_TC_shift_77 : decode prog_1_method_42_code 77 = .ok (.ifCond .eq 15, 3) := by decide +kernel
theorem d_TC_shift_80 : decode prog_1_method_42_code 80 = .ok (.aload 7, 2) := by decide +kernel
theorem d_TC_shift_82 : decode prog_1_method_42_code 82 = .ok (.iload 4, 2) := by decide +kernel
theorem d_TC_shift_84 : decode prog_1_method_42_code 84 = .ok (.iload 5, 2) := by decide +kernel
theorem d_TC_shift_86 : decode prog_1_method_42_code 86 = .ok (.invokevirtual 307, 3) := by decide +kernel
theorem d_TC_shift_89 : decode prog_1_method_42_code 89 = .ok (.ifCond .ne 6, 3) := by decide +kernel
theorem d_TC_shift_92 : decode prog_1_method_42_code 92 = .ok (.bipush (-13), 2) := by decide +kernel
theorem d_TC_shift_94 : decode prog_1_method_42_code 94 = .ok (.ireturn, 1) := by decide +kernel
theorem d_TC_shift_95 : decode prog_1_method_42_code 95 = .ok (.aload 6, 2) := by decide +kernel
theorem d_TC_shift_97 : decode prog_1_method_42_code 97 = .ok (.getfield 276, 3) := by decide +kernel
theorem d_TC_shift_100 : decode prog_1_method_42_code 100 = .ok (.iload_n 2, 1) := by decide +kernel
theorem d_TC_shift_101 : decode prog_1_method_42_code 101 = .ok (.aload 7, 2) := by decide +kernel
theorem d_TC_shift_103 : decode prog_1_method_42_code 103 = .ok (.getfield 276, 3) := by decide +kernel
theorem d_TC_shift_106 : decode prog_1_method_42_code 106 = .ok (.iload 4, 2) := by decide +kernel
theorem d_TC_shift_108 : decode prog_1_method_42_code 108 = .ok (.iload 5, 2) := by decide +kernel
theorem d_TC_shift_110 : decode prog_1_method_42_code 110 = .ok (.invokestatic 212, 3) := by decide +kernel
theorem d_TC_shift_113 : decode prog_1_method_42_code 113 = .ok (.iload 5, 2) := by decide +kernel
theorem d_TC_shift_115 : decode prog_1_method_42_code 115 = .ok (.ireturn, 1) := by decide +kernel
theorem d_Ta_has_0 : decode prog_9_method_4_code 0 = .ok (.iload_n 1, 1) := by decide +kernel
theorem d_Ta_has_1 : decode prog_9_method_4_code 1 = .ok (.ifCond .lt 25, 3) := by decide +kernel
theorem d_Ta_has_4 : decode prog_9_method_4_code 4 = .ok (.iload_n 2, 1) := by decide +kernel
theorem d_Ta_has_5 : decode prog_9_method_4_code 5 = .ok (.ifCond .lt 21, 3) := by decide +kernel
theorem d_Ta_has_8 : decode prog_9_method_4_code 8 = .ok (.iload_n 1, 1) := by decide +kernel
theorem d_Ta_has_9 : decode prog_9_method_4_code 9 = .ok (.i2l, 1) := by decide +kernel
theorem d_Ta_has_10 : decode prog_9_method_4_code 10 = .ok (.iload_n 2, 1) := by decide +kernel
theorem d_Ta_has_11 : decode prog_9_method_4_code 11 = .ok (.i2l, 1) := by decide +kernel
theorem d_Ta_has_12 : decode prog_9_method_4_code 12 = .ok (.ladd, 1) := by decide +kernel
theorem d_Ta_has_13 : decode prog_9_method_4_code 13 = .ok (.aload_n 0, 1) := by decide +kernel
theorem d_Ta_has_14 : decode prog_9_method_4_code 14 = .ok (.getfield 19, 3) := by decide +kernel
theorem d_Ta_has_17 : decode prog_9_method_4_code 17 = .ok (.i2l, 1) := by decide +kernel
theorem d_Ta_has_18 : decode prog_9_method_4_code 18 = .ok (.lcmp, 1) := by decide +kernel
theorem d_Ta_has_19 : decode prog_9_method_4_code 19 = .ok (.ifCond .gt 7, 3) := by decide +kernel
theorem d_Ta_has_22 : decode prog_9_method_4_code 22 = .ok (.iconst 1, 1) := by decide +kernel
theorem d_Ta_has_23 : decode prog_9_method_4_code 23 = .ok (.goto 4, 3) := by decide +kernel
theorem d_Ta_has_26 : decode prog_9_method_4_code 26 = .ok (.iconst 0, 1) := by decide +kernel
theorem d_Ta_has_27 : decode prog_9_method_4_code 27 = .ok (.ireturn, 1) := by decide +kernel
