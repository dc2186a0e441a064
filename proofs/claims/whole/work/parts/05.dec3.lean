theorem dX7_known_56 : decode cX7_known 56 = .ok (.aload_n 0, 1) := by decide +kernel
theorem dX7_known_57 : decode cX7_known 57 = .ok (.getfield 73, 3) := by decide +kernel
theorem dX7_known_60 : decode cX7_known 60 = .ok (.iload_n 1, 1) := by decide +kernel
theorem dX7_known_61 : decode cX7_known 61 = .ok (.iaload, 1) := by decide +kernel
theorem dX7_known_62 : decode cX7_known 62 = .ok (.ireturn, 1) := by decide +kernel
theorem dX7_value_0 : decode cX7_value 0 = .ok (.aload_n 0, 1) := by decide +kernel
theorem dX7_value_1 : decode cX7_value 1 = .ok (.iload_n 1, 1) := by decide +kernel
theorem dX7_value_2 : decode cX7_value 2 = .ok (.ifCond .lt 11, 3) := by decide +kernel
theorem dX7_value_5 : decode cX7_value 5 = .ok (.iload_n 1, 1) := by decide +kernel
theorem dX7_value_6 : decode cX7_value 6 = .ok (.aload_n 0, 1) := by decide +kernel
theorem dX7_value_7 : decode cX7_value 7 = .ok (.getfield 67, 3) := by decide +kernel
theorem dX7_value_10 : decode cX7_value 10 = .ok (.if_icmp .lt 7, 3) := by decide +kernel
theorem dX7_value_13 : decode cX7_value 13 = .ok (.iconst 1, 1) := by decide +kernel
theorem dX7_value_14 : decode cX7_value 14 = .ok (.goto 4, 3) := by decide +kernel
theorem dX7_value_17 : decode cX7_value 17 = .ok (.iconst 0, 1) := by decide +kernel
theorem dX7_value_18 : decode cX7_value 18 = .ok (.putfield 7, 3) := by decide +kernel
theorem dX7_value_21 : decode cX7_value 21 = .ok (.aload_n 0, 1) := by decide +kernel
theorem dX7_value_22 : decode cX7_value 22 = .ok (.getfield 7, 3) := by decide +kernel
theorem dX7_value_25 : decode cX7_value 25 = .ok (.ifCond .eq 7, 3) := by decide +kernel
theorem dX7_value_28 : decode cX7_value 28 = .ok (.lconst 0, 1) := by decide +kernel
theorem dX7_value_29 : decode cX7_value 29 = .ok (.goto 9, 3) := by decide +kernel
theorem dX7_value_32 : decode cX7_value 32 = .ok (.aload_n 0, 1) := by decide +kernel
theorem dX7_value_33 : decode cX7_value 33 = .ok (.getfield 76, 3) := by decide +kernel
theorem dX7_value_36 : decode cX7_value 36 = .ok (.iload_n 1, 1) := by decide +kernel
theorem dX7_value_37 : decode cX7_value 37 = .ok (.laload, 1) := by decide +kernel
theorem dX7_value_38 : decode cX7_value 38 = .ok (.lreturn, 1) := by decide +kernel
theorem dX7_mended_0 : decode cX7_mended 0 = .ok (.aload_n 0, 1) := by decide +kernel
theorem dX7_mended_1 : decode cX7_mended 1 = .ok (.iconst 0, 1) := by decide +kernel
theorem dX7_mended_2 : decode cX7_mended 2 = .ok (.putfield 7, 3) := by decide +kernel
theorem dX7_mended_5 : decode cX7_mended 5 = .ok (.aload_n 0, 1) := by decide +kernel
theorem dX7_mended_6 : decode cX7_mended 6 = .ok (.getfield 58, 3) := by decide +kernel
theorem dX7_mended_9 : decode cX7_mended 9 = .ok (.ireturn, 1) := by decide +kernel
theorem dX7_hint_0 : decode cX7_hint 0 = .ok (.aload_n 0, 1) := by decide +kernel
theorem dX7_hint_1 : decode cX7_hint 1 = .ok (.iload_n 1, 1) := by decide +kernel
theorem dX7_hint_2 : decode cX7_hint 2 = .ok (.ifCond .ge 7, 3) := by decide +kernel
theorem dX7_hint_5 : decode cX7_hint 5 = .ok (.iconst 1, 1) := by decide +kernel
theorem dX7_hint_6 : decode cX7_hint 6 = .ok (.goto 4, 3) := by decide +kernel
theorem dX7_hint_9 : decode cX7_hint 9 = .ok (.iconst 0, 1) := by decide +kernel
theorem dX7_hint_10 : decode cX7_hint 10 = .ok (.putfield 7, 3) := by decide +kernel
theorem dX7_hint_13 : decode cX7_hint 13 = .ok (.aload_n 0, 1) := by decide +kernel
theorem dX7_hint_14 : decode cX7_hint 14 = .ok (.getfield 7, 3) := by decide +kernel
theorem dX7_hint_17 : decode cX7_hint 17 = .ok (.ifCond .ne 10, 3) := by decide +kernel
theorem dX7_hint_20 : decode cX7_hint 20 = .ok (.aload_n 0, 1) := by decide +kernel
theorem dX7_hint_21 : decode cX7_hint 21 = .ok (.getfield 79, 3) := by decide +kernel
theorem dX7_hint_24 : decode cX7_hint 24 = .ok (.ifCond .ge 16, 3) := by decide +kernel
theorem dX7_hint_27 : decode cX7_hint 27 = .ok (.aload_n 0, 1) := by decide +kernel
theorem dX7_hint_28 : decode cX7_hint 28 = .ok (.getfield 7, 3) := by decide +kernel
theorem dX7_hint_31 : decode cX7_hint 31 = .ok (.ifCond .eq 7, 3) := by decide +kernel
theorem dX7_hint_34 : decode cX7_hint 34 = .ok (.iconst 0, 1) := by decide +kernel
theorem dX7_hint_35 : decode cX7_hint 35 = .ok (.goto 4, 3) := by decide +kernel
theorem dX7_hint_38 : decode cX7_hint 38 = .ok (.iconst (-1), 1) := by decide +kernel
theorem dX7_hint_39 : decode cX7_hint 39 = .ok (.ireturn, 1) := by decide +kernel
theorem dX7_hint_40 : decode cX7_hint 40 = .ok (.iconst 0, 1) := by decide +kernel
theorem dX7_hint_41 : decode cX7_hint 41 = .ok (.istore_n 2, 1) := by decide +kernel
theorem dX7_hint_42 : decode cX7_hint 42 = .ok (.bipush 10, 2) := by decide +kernel
theorem dX7_hint_44 : decode cX7_hint 44 = .ok (.istore_n 3, 1) := by decide +kernel
theorem dX7_hint_45 : decode cX7_hint 45 = .ok (.iload_n 3, 1) := by decide +kernel
theorem dX7_hint_46 : decode cX7_hint 46 = .ok (.bipush 100, 2) := by decide +kernel
theorem dX7_hint_48 : decode cX7_hint 48 = .ok (.if_icmp .ge 81, 3) := by decide +kernel
theorem dX7_hint_51 : decode cX7_hint 51 = .ok (.iload_n 3, 1) := by decide +kernel
theorem dX7_hint_52 : decode cX7_hint 52 = .ok (.bipush 10, 2) := by decide +kernel
theorem dX7_hint_54 : decode cX7_hint 54 = .ok (.idiv, 1) := by decide +kernel
theorem dX7_hint_55 : decode cX7_hint 55 = .ok (.aload_n 0, 1) := by decide +kernel
theorem dX7_hint_56 : decode cX7_hint 56 = .ok (.getfield 79, 3) := by decide +kernel
theorem dX7_hint_59 : decode cX7_hint 59 = .ok (.bipush 10, 2) := by decide +kernel
theorem dX7_hint_61 : decode cX7_hint 61 = .ok (.idiv, 1) := by decide +kernel
theorem dX7_hint_62 : decode cX7_hint 62 = .ok (.if_icmp .ne 7, 3) := by decide +kernel
theorem dX7_hint_65 : decode cX7_hint 65 = .ok (.iconst 1, 1) := by decide +kernel
theorem dX7_hint_66 : decode cX7_hint 66 = .ok (.goto 4, 3) := by decide +kernel
theorem dX7_hint_69 : decode cX7_hint 69 = .ok (.iconst 0, 1) := by decide +kernel
theorem dX7_hint_70 : decode cX7_hint 70 = .ok (.iload_n 3, 1) := by decide +kernel
theorem dX7_hint_71 : decode cX7_hint 71 = .ok (.bipush 10, 2) := by decide +kernel
theorem dX7_hint_73 : decode cX7_hint 73 = .ok (.irem, 1) := by decide +kernel
theorem dX7_hint_74 : decode cX7_hint 74 = .ok (.aload_n 0, 1) := by decide +kernel
theorem dX7_hint_75 : decode cX7_hint 75 = .ok (.getfield 79, 3) := by decide +kernel
theorem dX7_hint_78 : decode cX7_hint 78 = .ok (.bipush 10, 2) := by decide +kernel
theorem dX7_hint_80 : decode cX7_hint 80 = .ok (.irem, 1) := by decide +kernel
theorem dX7_hint_81 : decode cX7_hint 81 = .ok (.if_icmp .ne 7, 3) := by decide +kernel
theorem dX7_hint_84 : decode cX7_hint 84 = .ok (.iconst 1, 1) := by decide +kernel
theorem dX7_hint_85 : decode cX7_hint 85 = .ok (.goto 4, 3) := by decide +kernel
theorem dX7_hint_88 : decode cX7_hint 88 = .ok (.iconst 0, 1) := by decide +kernel
theorem dX7_hint_89 : decode cX7_hint 89 = .ok (.if_icmp .eq 7, 3) := by decide +kernel
theorem dX7_hint_92 : decode cX7_hint 92 = .ok (.iconst 1, 1) := by decide +kernel
theorem dX7_hint_93 : decode cX7_hint 93 = .ok (.goto 4, 3) := by decide +kernel
theorem dX7_hint_96 : decode cX7_hint 96 = .ok (.iconst 0, 1) := by decide +kernel
theorem dX7_hint_97 : decode cX7_hint 97 = .ok (.istore 4, 2) := by decide +kernel
theorem dX7_hint_99 : decode cX7_hint 99 = .ok (.aload_n 0, 1) := by decide +kernel
theorem dX7_hint_100 : decode cX7_hint 100 = .ok (.getfield 13, 3) := by decide +kernel
theorem dX7_hint_103 : decode cX7_hint 103 = .ok (.iload_n 3, 1) := by decide +kernel
theorem dX7_hint_104 : decode cX7_hint 104 = .ok (.iaload, 1) := by decide +kernel
theorem dX7_hint_105 : decode cX7_hint 105 = .ok (.ifCond .le 18, 3) := by decide +kernel
theorem dX7_hint_108 : decode cX7_hint 108 = .ok (.iload 4, 2) := by decide +kernel
theorem dX7_hint_110 : decode cX7_hint 110 = .ok (.ifCond .eq 13, 3) := by decide +kernel
theorem dX7_hint_113 : decode cX7_hint 113 = .ok (.iload_n 2, 1) := by decide +kernel
theorem dX7_hint_114 : decode cX7_hint 114 = .ok (.iload_n 1, 1) := by decide +kernel
theorem dX7_hint_115 : decode cX7_hint 115 = .ok (.if_icmp .ne 5, 3) := by decide +kernel
theorem dX7_hint_118 : decode cX7_hint 118 = .ok (.iload_n 3, 1) := by decide +kernel
theorem dX7_hint_119 : decode cX7_hint 119 = .ok (.ireturn, 1) := by decide +kernel
theorem dX7_hint_120 : decode cX7_hint 120 = .ok (.iinc 2 1, 3) := by decide +kernel
theorem dX7_hint_123 : decode cX7_hint 123 = .ok (.iinc 3 1, 3) := by decide +kernel
theorem dX7_hint_126 : decode cX7_hint 126 = .ok (.goto (-81), 3) := by decide +kernel
theorem dX7_hint_129 : decode cX7_hint 129 = .ok (.iconst (-1), 1) := by decide +kernel
theorem dX7_hint_130 : decode cX7_hint 130 = .ok (.ireturn, 1) := by decide +kernel
theorem dX7_labelNow_0 : decode cX7_labelNow 0 = .ok (.iconst 0, 1) := by decide +kernel
theorem dX7_labelNow_1 : decode cX7_labelNow 1 = .ok (.istore_n 1, 1) := by decide +kernel
theorem dX7_labelNow_2 : decode cX7_labelNow 2 = .ok (.iload_n 1, 1) := by decide +kernel
theorem dX7_labelNow_3 : decode cX7_labelNow 3 = .ok (.aload_n 0, 1) := by decide +kernel
theorem dX7_labelNow_4 : decode cX7_labelNow 4 = .ok (.getfield 82, 3) := by decide +kernel
theorem dX7_labelNow_7 : decode cX7_labelNow 7 = .ok (.if_icmp .ge 121, 3) := by decide +kernel
theorem dX7_labelNow_10 : decode cX7_labelNow 10 = .ok (.aload_n 0, 1) := by decide +kernel
theorem dX7_labelNow_11 : decode cX7_labelNow 11 = .ok (.getfield 85, 3) := by decide +kernel
theorem dX7_labelNow_14 : decode cX7_labelNow 14 = .ok (.iload_n 1, 1) := by decide +kernel
theorem dX7_labelNow_15 : decode cX7_labelNow 15 = .ok (.iaload, 1) := by decide +kernel
theorem dX7_labelNow_16 : decode cX7_labelNow 16 = .ok (.aload_n 0, 1) := by decide +kernel
theorem dX7_labelNow_17 : decode cX7_labelNow 17 = .ok (.getfield 67, 3) := by decide +kernel
theorem dX7_labelNow_20 : decode cX7_labelNow 20 = .ok (.if_icmp .ne 7, 3) := by decide +kernel
theorem dX7_labelNow_23 : decode cX7_labelNow 23 = .ok (.iconst 1, 1) := by decide +kernel
theorem dX7_labelNow_24 : decode cX7_labelNow 24 = .ok (.goto 4, 3) := by decide +kernel
theorem dX7_labelNow_27 : decode cX7_labelNow 27 = .ok (.iconst 0, 1) := by decide +kernel
theorem dX7_labelNow_28 : decode cX7_labelNow 28 = .ok (.istore_n 2, 1) := by decide +kernel
theorem dX7_labelNow_29 : decode cX7_labelNow 29 = .ok (.iconst 0, 1) := by decide +kernel
theorem dX7_labelNow_30 : decode cX7_labelNow 30 = .ok (.istore_n 3, 1) := by decide +kernel
theorem dX7_labelNow_31 : decode cX7_labelNow 31 = .ok (.iload_n 3, 1) := by decide +kernel
theorem dX7_labelNow_32 : decode cX7_labelNow 32 = .ok (.aload_n 0, 1) := by decide +kernel
theorem dX7_labelNow_33 : decode cX7_labelNow 33 = .ok (.getfield 67, 3) := by decide +kernel
theorem dX7_labelNow_36 : decode cX7_labelNow 36 = .ok (.if_icmp .ge 80, 3) := by decide +kernel
theorem dX7_labelNow_39 : decode cX7_labelNow 39 = .ok (.iload_n 2, 1) := by decide +kernel
theorem dX7_labelNow_40 : decode cX7_labelNow 40 = .ok (.ifCond .eq 76, 3) := by decide +kernel
theorem dX7_labelNow_43 : decode cX7_labelNow 43 = .ok (.aload_n 0, 1) := by decide +kernel
theorem dX7_labelNow_44 : decode cX7_labelNow 44 = .ok (.getfield 88, 3) := by decide +kernel
theorem dX7_labelNow_47 : decode cX7_labelNow 47 = .ok (.bipush 6, 2) := by decide +kernel
theorem dX7_labelNow_49 : decode cX7_labelNow 49 = .ok (.iload_n 1, 1) := by decide +kernel
theorem dX7_labelNow_50 : decode cX7_labelNow 50 = .ok (.imul, 1) := by decide +kernel
theorem dX7_labelNow_51 : decode cX7_labelNow 51 = .ok (.iload_n 3, 1) := by decide +kernel
theorem dX7_labelNow_52 : decode cX7_labelNow 52 = .ok (.iadd, 1) := by decide +kernel
theorem dX7_labelNow_53 : decode cX7_labelNow 53 = .ok (.iaload, 1) := by decide +kernel
theorem dX7_labelNow_54 : decode cX7_labelNow 54 = .ok (.aload_n 0, 1) := by decide +kernel
theorem dX7_labelNow_55 : decode cX7_labelNow 55 = .ok (.getfield 70, 3) := by decide +kernel
theorem dX7_labelNow_58 : decode cX7_labelNow 58 = .ok (.iload_n 3, 1) := by decide +kernel
theorem dX7_labelNow_59 : decode cX7_labelNow 59 = .ok (.iaload, 1) := by decide +kernel
theorem dX7_labelNow_60 : decode cX7_labelNow 60 = .ok (.if_icmp .ne 48, 3) := by decide +kernel
theorem dX7_labelNow_63 : decode cX7_labelNow 63 = .ok (.aload_n 0, 1) := by decide +kernel
theorem dX7_labelNow_64 : decode cX7_labelNow 64 = .ok (.getfield 91, 3) := by decide +kernel
theorem dX7_labelNow_67 : decode cX7_labelNow 67 = .ok (.bipush 6, 2) := by decide +kernel
theorem dX7_labelNow_69 : decode cX7_labelNow 69 = .ok (.iload_n 1, 1) := by decide +kernel
theorem dX7_labelNow_70 : decode cX7_labelNow 70 = .ok (.imul, 1) := by decide +kernel
theorem dX7_labelNow_71 : decode cX7_labelNow 71 = .ok (.iload_n 3, 1) := by decide +kernel
theorem dX7_labelNow_72 : decode cX7_labelNow 72 = .ok (.iadd, 1) := by decide +kernel
theorem dX7_labelNow_73 : decode cX7_labelNow 73 = .ok (.iaload, 1) := by decide +kernel
theorem dX7_labelNow_74 : decode cX7_labelNow 74 = .ok (.aload_n 0, 1) := by decide +kernel
theorem dX7_labelNow_75 : decode cX7_labelNow 75 = .ok (.getfield 73, 3) := by decide +kernel
theorem dX7_labelNow_78 : decode cX7_labelNow 78 = .ok (.iload_n 3, 1) := by decide +kernel
theorem dX7_labelNow_79 : decode cX7_labelNow 79 = .ok (.iaload, 1) := by decide +kernel
theorem dX7_labelNow_80 : decode cX7_labelNow 80 = .ok (.if_icmp .ne 28, 3) := by decide +kernel
theorem dX7_labelNow_83 : decode cX7_labelNow 83 = .ok (.aload_n 0, 1) := by decide +kernel
theorem dX7_labelNow_84 : decode cX7_labelNow 84 = .ok (.getfield 94, 3) := by decide +kernel
theorem dX7_labelNow_87 : decode cX7_labelNow 87 = .ok (.bipush 6, 2) := by decide +kernel
theorem dX7_labelNow_89 : decode cX7_labelNow 89 = .ok (.iload_n 1, 1) := by decide +kernel
theorem dX7_labelNow_90 : decode cX7_labelNow 90 = .ok (.imul, 1) := by decide +kernel
theorem dX7_labelNow_91 : decode cX7_labelNow 91 = .ok (.iload_n 3, 1) := by decide +kernel
theorem dX7_labelNow_92 : decode cX7_labelNow 92 = .ok (.iadd, 1) := by decide +kernel
theorem dX7_labelNow_93 : decode cX7_labelNow 93 = .ok (.laload, 1) := by decide +kernel
theorem dX7_labelNow_94 : decode cX7_labelNow 94 = .ok (.aload_n 0, 1) := by decide +kernel
theorem dX7_labelNow_95 : decode cX7_labelNow 95 = .ok (.getfield 76, 3) := by decide +kernel
theorem dX7_labelNow_98 : decode cX7_labelNow 98 = .ok (.iload_n 3, 1) := by decide +kernel
theorem dX7_labelNow_99 : decode cX7_labelNow 99 = .ok (.laload, 1) := by decide +kernel
theorem dX7_labelNow_100 : decode cX7_labelNow 100 = .ok (.lcmp, 1) := by decide +kernel
theorem dX7_labelNow_101 : decode cX7_labelNow 101 = .ok (.ifCond .ne 7, 3) := by decide +kernel
theorem dX7_labelNow_104 : decode cX7_labelNow 104 = .ok (.iconst 1, 1) := by decide +kernel
theorem dX7_labelNow_105 : decode cX7_labelNow 105 = .ok (.goto 4, 3) := by decide +kernel
theorem dX7_labelNow_108 : decode cX7_labelNow 108 = .ok (.iconst 0, 1) := by decide +kernel
theorem dX7_labelNow_109 : decode cX7_labelNow 109 = .ok (.istore_n 2, 1) := by decide +kernel
theorem dX7_labelNow_110 : decode cX7_labelNow 110 = .ok (.iinc 3 1, 3) := by decide +kernel
theorem dX7_labelNow_113 : decode cX7_labelNow 113 = .ok (.goto (-82), 3) := by decide +kernel
theorem dX7_labelNow_116 : decode cX7_labelNow 116 = .ok (.iload_n 2, 1) := by decide +kernel
theorem dX7_labelNow_117 : decode cX7_labelNow 117 = .ok (.ifCond .eq 5, 3) := by decide +kernel
theorem dX7_labelNow_120 : decode cX7_labelNow 120 = .ok (.iload_n 1, 1) := by decide +kernel
theorem dX7_labelNow_121 : decode cX7_labelNow 121 = .ok (.ireturn, 1) := by decide +kernel
theorem dX7_labelNow_122 : decode cX7_labelNow 122 = .ok (.iinc 1 1, 3) := by decide +kernel
theorem dX7_labelNow_125 : decode cX7_labelNow 125 = .ok (.goto (-123), 3) := by decide +kernel
theorem dX7_labelNow_128 : decode cX7_labelNow 128 = .ok (.aload_n 0, 1) := by decide +kernel
theorem dX7_labelNow_129 : decode cX7_labelNow 129 = .ok (.getfield 82, 3) := by decide +kernel
theorem dX7_labelNow_132 : decode cX7_labelNow 132 = .ok (.ireturn, 1) := by decide +kernel
theorem dX7_keep_0 : decode cX7_keep 0 = .ok (.aload_n 0, 1) := by decide +kernel
theorem dX7_keep_1 : decode cX7_keep 1 = .ok (.dup, 1) := by decide +kernel
theorem dX7_keep_2 : decode cX7_keep 2 = .ok (.getfield 82, 3) := by decide +kernel
theorem dX7_keep_5 : decode cX7_keep 5 = .ok (.iconst 1, 1) := by decide +kernel
theorem dX7_keep_6 : decode cX7_keep 6 = .ok (.iadd, 1) := by decide +kernel
theorem dX7_keep_7 : decode cX7_keep 7 = .ok (.putfield 82, 3) := by decide +kernel
theorem dX7_keep_10 : decode cX7_keep 10 = .ok (.aload_n 0, 1) := by decide +kernel
theorem dX7_keep_11 : decode cX7_keep 11 = .ok (.getfield 85, 3) := by decide +kernel
theorem dX7_keep_14 : decode cX7_keep 14 = .ok (.iload_n 1, 1) := by decide +kernel
theorem dX7_keep_15 : decode cX7_keep 15 = .ok (.aload_n 0, 1) := by decide +kernel
theorem dX7_keep_16 : decode cX7_keep 16 = .ok (.getfield 67, 3) := by decide +kernel
theorem dX7_keep_19 : decode cX7_keep 19 = .ok (.iastore, 1) := by decide +kernel
theorem dX7_keep_20 : decode cX7_keep 20 = .ok (.iconst 0, 1) := by decide +kernel
theorem dX7_keep_21 : decode cX7_keep 21 = .ok (.istore_n 2, 1) := by decide +kernel
theorem dX7_keep_22 : decode cX7_keep 22 = .ok (.iload_n 2, 1) := by decide +kernel
theorem dX7_keep_23 : decode cX7_keep 23 = .ok (.aload_n 0, 1) := by decide +kernel
theorem dX7_keep_24 : decode cX7_keep 24 = .ok (.getfield 67, 3) := by decide +kernel
theorem dX7_keep_27 : decode cX7_keep 27 = .ok (.if_icmp .ge 60, 3) := by decide +kernel
theorem dX7_keep_30 : decode cX7_keep 30 = .ok (.aload_n 0, 1) := by decide +kernel
theorem dX7_keep_31 : decode cX7_keep 31 = .ok (.getfield 88, 3) := by decide +kernel
theorem dX7_keep_34 : decode cX7_keep 34 = .ok (.bipush 6, 2) := by decide +kernel
theorem dX7_keep_36 : decode cX7_keep 36 = .ok (.iload_n 1, 1) := by decide +kernel
theorem dX7_keep_37 : decode cX7_keep 37 = .ok (.imul, 1) := by decide +kernel
theorem dX7_keep_38 : decode cX7_keep 38 = .ok (.iload_n 2, 1) := by decide +kernel
theorem dX7_keep_39 : decode cX7_keep 39 = .ok (.iadd, 1) := by decide +kernel
theorem dX7_keep_40 : decode cX7_keep 40 = .ok (.aload_n 0, 1) := by decide +kernel
theorem dX7_keep_41 : decode cX7_keep 41 = .ok (.getfield 70, 3) := by decide +kernel
theorem dX7_keep_44 : decode cX7_keep 44 = .ok (.iload_n 2, 1) := by decide +kernel
theorem dX7_keep_45 : decode cX7_keep 45 = .ok (.iaload, 1) := by decide +kernel
theorem dX7_keep_46 : decode cX7_keep 46 = .ok (.iastore, 1) := by decide +kernel
theorem dX7_keep_47 : decode cX7_keep 47 = .ok (.aload_n 0, 1) := by decide +kernel
theorem dX7_keep_48 : decode cX7_keep 48 = .ok (.getfield 91, 3) := by decide +kernel
theorem dX7_keep_51 : decode cX7_keep 51 = .ok (.bipush 6, 2) := by decide +kernel
theorem dX7_keep_53 : decode cX7_keep 53 = .ok (.iload_n 1, 1) := by decide +kernel
theorem dX7_keep_54 : decode cX7_keep 54 = .ok (.imul, 1) := by decide +kernel
theorem dX7_keep_55 : decode cX7_keep 55 = .ok (.iload_n 2, 1) := by decide +kernel
theorem dX7_keep_56 : decode cX7_keep 56 = .ok (.iadd, 1) := by decide +kernel
theorem dX7_keep_57 : decode cX7_keep 57 = .ok (.aload_n 0, 1) := by decide +kernel
theorem dX7_keep_58 : decode cX7_keep 58 = .ok (.getfield 73, 3) := by decide +kernel
theorem dX7_keep_61 : decode cX7_keep 61 = .ok (.iload_n 2, 1) := by decide +kernel
theorem dX7_keep_62 : decode cX7_keep 62 = .ok (.iaload, 1) := by decide +kernel
theorem dX7_keep_63 : decode cX7_keep 63 = .ok (.iastore, 1) := by decide +kernel
theorem dX7_keep_64 : decode cX7_keep 64 = .ok (.aload_n 0, 1) := by decide +kernel
theorem dX7_keep_65 : decode cX7_keep 65 = .ok (.getfield 94, 3) := by decide +kernel
theorem dX7_keep_68 : decode cX7_keep 68 = .ok (.bipush 6, 2) := by decide +kernel
theorem dX7_keep_70 : decode cX7_keep 70 = .ok (.iload_n 1, 1) := by decide +kernel
theorem dX7_keep_71 : decode cX7_keep 71 = .ok (.imul, 1) := by decide +kernel
theorem dX7_keep_72 : decode cX7_keep 72 = .ok (.iload_n 2, 1) := by decide +kernel
theorem dX7_keep_73 : decode cX7_keep 73 = .ok (.iadd, 1) := by decide +kernel
theorem dX7_keep_74 : decode cX7_keep 74 = .ok (.aload_n 0, 1) := by decide +kernel
theorem dX7_keep_75 : decode cX7_keep 75 = .ok (.getfield 76, 3) := by decide +kernel
theorem dX7_keep_78 : decode cX7_keep 78 = .ok (.iload_n 2, 1) := by decide +kernel
theorem dX7_keep_79 : decode cX7_keep 79 = .ok (.laload, 1) := by decide +kernel
theorem dX7_keep_80 : decode cX7_keep 80 = .ok (.lastore, 1) := by decide +kernel
theorem dX7_keep_81 : decode cX7_keep 81 = .ok (.iinc 2 1, 3) := by decide +kernel
theorem dX7_keep_84 : decode cX7_keep 84 = .ok (.goto (-62), 3) := by decide +kernel
theorem dX7_keep_87 : decode cX7_keep 87 = .ok (.iconst 0, 1) := by decide +kernel
theorem dX7_keep_88 : decode cX7_keep 88 = .ok (.istore_n 2, 1) := by decide +kernel
theorem dX7_keep_89 : decode cX7_keep 89 = .ok (.iload_n 2, 1) := by decide +kernel
theorem dX7_keep_90 : decode cX7_keep 90 = .ok (.bipush 8, 2) := by decide +kernel
theorem dX7_keep_92 : decode cX7_keep 92 = .ok (.if_icmp .ge 21, 3) := by decide +kernel
theorem dX7_keep_95 : decode cX7_keep 95 = .ok (.aload_n 0, 1) := by decide +kernel
theorem dX7_keep_96 : decode cX7_keep 96 = .ok (.getfield 97, 3) := by decide +kernel
theorem dX7_keep_99 : decode cX7_keep 99 = .ok (.bipush 8, 2) := by decide +kernel
theorem dX7_keep_101 : decode cX7_keep 101 = .ok (.iload_n 1, 1) := by decide +kernel
theorem dX7_keep_102 : decode cX7_keep 102 = .ok (.imul, 1) := by decide +kernel
theorem dX7_keep_103 : decode cX7_keep 103 = .ok (.iload_n 2, 1) := by decide +kernel
theorem dX7_keep_104 : decode cX7_keep 104 = .ok (.iadd, 1) := by decide +kernel
theorem dX7_keep_105 : decode cX7_keep 105 = .ok (.iconst (-1), 1) := by decide +kernel
theorem dX7_keep_106 : decode cX7_keep 106 = .ok (.iastore, 1) := by decide +kernel
theorem dX7_keep_107 : decode cX7_keep 107 = .ok (.iinc 2 1, 3) := by decide +kernel
theorem dX7_keep_110 : decode cX7_keep 110 = .ok (.goto (-21), 3) := by decide +kernel
theorem dX7_keep_113 : decode cX7_keep 113 = .ok (.return_, 1) := by decide +kernel
theorem dX7_scan_0 : decode cX7_scan 0 = .ok (.aload_n 0, 1) := by decide +kernel
theorem dX7_scan_1 : decode cX7_scan 1 = .ok (.iload_n 1, 1) := by decide +kernel
theorem dX7_scan_2 : decode cX7_scan 2 = .ok (.ifCond .lt 17, 3) := by decide +kernel
theorem dX7_scan_5 : decode cX7_scan 5 = .ok (.iload_n 1, 1) := by decide +kernel
theorem dX7_scan_6 : decode cX7_scan 6 = .ok (.bipush 7, 2) := by decide +kernel
theorem dX7_scan_8 : decode cX7_scan 8 = .ok (.if_icmp .gt 11, 3) := by decide +kernel
theorem dX7_scan_11 : decode cX7_scan 11 = .ok (.iload_n 2, 1) := by decide +kernel
theorem dX7_scan_12 : decode cX7_scan 12 = .ok (.aload_n 0, 1) := by decide +kernel
theorem dX7_scan_13 : decode cX7_scan 13 = .ok (.getfield 100, 3) := by decide +kernel
theorem dX7_scan_16 : decode cX7_scan 16 = .ok (.if_icmp .ge 7, 3) := by decide +kernel
theorem dX7_scan_19 : decode cX7_scan 19 = .ok (.iconst 1, 1) := by decide +kernel
theorem dX7_scan_20 : decode cX7_scan 20 = .ok (.goto 15, 3) := by decide +kernel
theorem dX7_scan_23 : decode cX7_scan 23 = .ok (.aload_n 0, 1) := by decide +kernel
theorem dX7_scan_24 : decode cX7_scan 24 = .ok (.getfield 67, 3) := by decide +kernel
theorem dX7_scan_27 : decode cX7_scan 27 = .ok (.ifCond .ne 7, 3) := by decide +kernel
theorem dX7_scan_30 : decode cX7_scan 30 = .ok (.iconst 2, 1) := by decide +kernel
theorem dX7_scan_31 : decode cX7_scan 31 = .ok (.goto 4, 3) := by decide +kernel
theorem dX7_scan_34 : decode cX7_scan 34 = .ok (.iconst 0, 1) := by decide +kernel
theorem dX7_scan_35 : decode cX7_scan 35 = .ok (.putfield 7, 3) := by decide +kernel
theorem dX7_scan_38 : decode cX7_scan 38 = .ok (.aload_n 0, 1) := by decide +kernel
theorem dX7_scan_39 : decode cX7_scan 39 = .ok (.getfield 7, 3) := by decide +kernel
theorem dX7_scan_42 : decode cX7_scan 42 = .ok (.ifCond .eq 5, 3) := by decide +kernel
theorem dX7_scan_45 : decode cX7_scan 45 = .ok (.iconst 0, 1) := by decide +kernel
theorem dX7_scan_46 : decode cX7_scan 46 = .ok (.ireturn, 1) := by decide +kernel
theorem dX7_scan_47 : decode cX7_scan 47 = .ok (.aload_n 0, 1) := by decide +kernel
theorem dX7_scan_48 : decode cX7_scan 48 = .ok (.invokevirtual 150, 3) := by decide +kernel
theorem dX7_scan_51 : decode cX7_scan 51 = .ok (.istore_n 3, 1) := by decide +kernel
theorem dX7_scan_52 : decode cX7_scan 52 = .ok (.aload_n 0, 1) := by decide +kernel
theorem dX7_scan_53 : decode cX7_scan 53 = .ok (.iload_n 3, 1) := by decide +kernel
theorem dX7_scan_54 : decode cX7_scan 54 = .ok (.bipush 40, 2) := by decide +kernel
theorem dX7_scan_56 : decode cX7_scan 56 = .ok (.if_icmp .ne 7, 3) := by decide +kernel
theorem dX7_scan_59 : decode cX7_scan 59 = .ok (.iconst 3, 1) := by decide +kernel
theorem dX7_scan_60 : decode cX7_scan 60 = .ok (.goto 4, 3) := by decide +kernel
theorem dX7_scan_63 : decode cX7_scan 63 = .ok (.iconst 0, 1) := by decide +kernel
theorem dX7_scan_64 : decode cX7_scan 64 = .ok (.putfield 7, 3) := by decide +kernel
theorem dX7_scan_67 : decode cX7_scan 67 = .ok (.aload_n 0, 1) := by decide +kernel
theorem dX7_scan_68 : decode cX7_scan 68 = .ok (.getfield 7, 3) := by decide +kernel
theorem dX7_scan_71 : decode cX7_scan 71 = .ok (.ifCond .eq 5, 3) := by decide +kernel
theorem dX7_scan_74 : decode cX7_scan 74 = .ok (.iconst 0, 1) := by decide +kernel
theorem dX7_scan_75 : decode cX7_scan 75 = .ok (.ireturn, 1) := by decide +kernel
theorem dX7_scan_76 : decode cX7_scan 76 = .ok (.aload_n 0, 1) := by decide +kernel
theorem dX7_scan_77 : decode cX7_scan 77 = .ok (.iload_n 2, 1) := by decide +kernel
theorem dX7_scan_78 : decode cX7_scan 78 = .ok (.putfield 100, 3) := by decide +kernel
theorem dX7_scan_81 : decode cX7_scan 81 = .ok (.iconst 0, 1) := by decide +kernel
theorem dX7_scan_82 : decode cX7_scan 82 = .ok (.istore 4, 2) := by decide +kernel
theorem dX7_scan_84 : decode cX7_scan 84 = .ok (.iload 4, 2) := by decide +kernel
theorem dX7_scan_86 : decode cX7_scan 86 = .ok (.aload_n 0, 1) := by decide +kernel
theorem dX7_scan_87 : decode cX7_scan 87 = .ok (.getfield 67, 3) := by decide +kernel
theorem dX7_scan_90 : decode cX7_scan 90 = .ok (.if_icmp .ge 39, 3) := by decide +kernel
theorem dX7_scan_93 : decode cX7_scan 93 = .ok (.aload_n 0, 1) := by decide +kernel
theorem dX7_scan_94 : decode cX7_scan 94 = .ok (.getfield 21, 3) := by decide +kernel
theorem dX7_scan_97 : decode cX7_scan 97 = .ok (.aload_n 0, 1) := by decide +kernel
theorem dX7_scan_98 : decode cX7_scan 98 = .ok (.getfield 70, 3) := by decide +kernel
theorem dX7_scan_101 : decode cX7_scan 101 = .ok (.iload 4, 2) := by decide +kernel
theorem dX7_scan_103 : decode cX7_scan 103 = .ok (.iaload, 1) := by decide +kernel
theorem dX7_scan_104 : decode cX7_scan 104 = .ok (.iaload, 1) := by decide +kernel
theorem dX7_scan_105 : decode cX7_scan 105 = .ok (.istore 5, 2) := by decide +kernel
theorem dX7_scan_107 : decode cX7_scan 107 = .ok (.iload 5, 2) := by decide +kernel
theorem dX7_scan_109 : decode cX7_scan 109 = .ok (.ifCond .lt 14, 3) := by decide +kernel
theorem dX7_scan_112 : decode cX7_scan 112 = .ok (.iload 5, 2) := by decide +kernel
theorem dX7_scan_114 : decode cX7_scan 114 = .ok (.iload_n 1, 1) := by decide +kernel
theorem dX7_scan_115 : decode cX7_scan 115 = .ok (.if_icmp .eq 8, 3) := by decide +kernel
theorem dX7_scan_118 : decode cX7_scan 118 = .ok (.iconst (-1), 1) := by decide +kernel
theorem dX7_scan_119 : decode cX7_scan 119 = .ok (.iload 4, 2) := by decide +kernel
theorem dX7_scan_121 : decode cX7_scan 121 = .ok (.isub, 1) := by decide +kernel
theorem dX7_scan_122 : decode cX7_scan 122 = .ok (.ireturn, 1) := by decide +kernel
theorem dX7_scan_123 : decode cX7_scan 123 = .ok (.iinc 4 1, 3) := by decide +kernel
theorem dX7_scan_126 : decode cX7_scan 126 = .ok (.goto (-42), 3) := by decide +kernel
theorem dX7_scan_129 : decode cX7_scan 129 = .ok (.iload_n 3, 1) := by decide +kernel
theorem dX7_scan_130 : decode cX7_scan 130 = .ok (.aload_n 0, 1) := by decide +kernel
theorem dX7_scan_131 : decode cX7_scan 131 = .ok (.getfield 82, 3) := by decide +kernel
theorem dX7_scan_134 : decode cX7_scan 134 = .ok (.if_icmp .ne 8, 3) := by decide +kernel
theorem dX7_scan_137 : decode cX7_scan 137 = .ok (.aload_n 0, 1) := by decide +kernel
theorem dX7_scan_138 : decode cX7_scan 138 = .ok (.iload_n 3, 1) := by decide +kernel
theorem dX7_scan_139 : decode cX7_scan 139 = .ok (.invokevirtual 153, 3) := by decide +kernel
theorem dX7_scan_142 : decode cX7_scan 142 = .ok (.aload_n 0, 1) := by decide +kernel
theorem dX7_scan_143 : decode cX7_scan 143 = .ok (.getfield 97, 3) := by decide +kernel
theorem dX7_scan_146 : decode cX7_scan 146 = .ok (.bipush 8, 2) := by decide +kernel
theorem dX7_scan_148 : decode cX7_scan 148 = .ok (.iload_n 3, 1) := by decide +kernel
theorem dX7_scan_149 : decode cX7_scan 149 = .ok (.imul, 1) := by decide +kernel
theorem dX7_scan_150 : decode cX7_scan 150 = .ok (.iload_n 1, 1) := by decide +kernel
theorem dX7_scan_151 : decode cX7_scan 151 = .ok (.iadd, 1) := by decide +kernel
theorem dX7_scan_152 : decode cX7_scan 152 = .ok (.iaload, 1) := by decide +kernel
theorem dX7_scan_153 : decode cX7_scan 153 = .ok (.istore 4, 2) := by decide +kernel
theorem dX7_scan_155 : decode cX7_scan 155 = .ok (.iload 4, 2) := by decide +kernel
theorem dX7_scan_157 : decode cX7_scan 157 = .ok (.ifCond .lt 14, 3) := by decide +kernel
theorem dX7_scan_160 : decode cX7_scan 160 = .ok (.iload_n 2, 1) := by decide +kernel
theorem dX7_scan_161 : decode cX7_scan 161 = .ok (.iload 4, 2) := by decide +kernel
theorem dX7_scan_163 : decode cX7_scan 163 = .ok (.isub, 1) := by decide +kernel
theorem dX7_scan_164 : decode cX7_scan 164 = .ok (.bipush 10, 2) := by decide +kernel
theorem dX7_scan_166 : decode cX7_scan 166 = .ok (.if_icmp .gt 5, 3) := by decide +kernel
theorem dX7_scan_169 : decode cX7_scan 169 = .ok (.iconst 0, 1) := by decide +kernel
theorem dX7_scan_170 : decode cX7_scan 170 = .ok (.ireturn, 1) := by decide +kernel
theorem dX7_scan_171 : decode cX7_scan 171 = .ok (.aload_n 0, 1) := by decide +kernel
theorem dX7_scan_172 : decode cX7_scan 172 = .ok (.getfield 97, 3) := by decide +kernel
theorem dX7_scan_175 : decode cX7_scan 175 = .ok (.bipush 8, 2) := by decide +kernel
theorem dX7_scan_177 : decode cX7_scan 177 = .ok (.iload_n 3, 1) := by decide +kernel
theorem dX7_scan_178 : decode cX7_scan 178 = .ok (.imul, 1) := by decide +kernel
theorem dX7_scan_179 : decode cX7_scan 179 = .ok (.iload_n 1, 1) := by decide +kernel
theorem dX7_scan_180 : decode cX7_scan 180 = .ok (.iadd, 1) := by decide +kernel
theorem dX7_scan_181 : decode cX7_scan 181 = .ok (.iload_n 2, 1) := by decide +kernel
theorem dX7_scan_182 : decode cX7_scan 182 = .ok (.iastore, 1) := by decide +kernel
theorem dX7_scan_183 : decode cX7_scan 183 = .ok (.aload_n 0, 1) := by decide +kernel
theorem dX7_scan_184 : decode cX7_scan 184 = .ok (.getfield 67, 3) := by decide +kernel
theorem dX7_scan_187 : decode cX7_scan 187 = .ok (.ireturn, 1) := by decide +kernel
theorem dX7_count_0 : decode cX7_count 0 = .ok (.aload_n 0, 1) := by decide +kernel
theorem dX7_count_1 : decode cX7_count 1 = .ok (.iconst 0, 1) := by decide +kernel
theorem dX7_count_2 : decode cX7_count 2 = .ok (.putfield 7, 3) := by decide +kernel
theorem dX7_count_5 : decode cX7_count 5 = .ok (.iload_n 1, 1) := by decide +kernel
theorem dX7_count_6 : decode cX7_count 6 = .ok (.tableswitch 86 0 7 #[46, 51, 56, 61, 66, 71, 76, 81], 46) := by decide +kernel
theorem dX7_count_52 : decode cX7_count 52 = .ok (.aload_n 0, 1) := by decide +kernel
theorem dX7_count_53 : decode cX7_count 53 = .ok (.invokevirtual 134, 3) := by decide +kernel
theorem dX7_count_56 : decode cX7_count 56 = .ok (.ireturn, 1) := by decide +kernel
theorem dX7_count_57 : decode cX7_count 57 = .ok (.aload_n 0, 1) := by decide +kernel
theorem dX7_count_58 : decode cX7_count 58 = .ok (.getfield 27, 3) := by decide +kernel
theorem dX7_count_61 : decode cX7_count 61 = .ok (.ireturn, 1) := by decide +kernel
theorem dX7_count_62 : decode cX7_count 62 = .ok (.aload_n 0, 1) := by decide +kernel
theorem dX7_count_63 : decode cX7_count 63 = .ok (.getfield 40, 3) := by decide +kernel
theorem dX7_count_66 : decode cX7_count 66 = .ok (.ireturn, 1) := by decide +kernel
theorem dX7_count_67 : decode cX7_count 67 = .ok (.aload_n 0, 1) := by decide +kernel
theorem dX7_count_68 : decode cX7_count 68 = .ok (.getfield 46, 3) := by decide +kernel
theorem dX7_count_71 : decode cX7_count 71 = .ok (.ireturn, 1) := by decide +kernel
theorem dX7_count_72 : decode cX7_count 72 = .ok (.aload_n 0, 1) := by decide +kernel
theorem dX7_count_73 : decode cX7_count 73 = .ok (.getfield 52, 3) := by decide +kernel
theorem dX7_count_76 : decode cX7_count 76 = .ok (.ireturn, 1) := by decide +kernel
theorem dX7_count_77 : decode cX7_count 77 = .ok (.aload_n 0, 1) := by decide +kernel
theorem dX7_count_78 : decode cX7_count 78 = .ok (.getfield 67, 3) := by decide +kernel
theorem dX7_count_81 : decode cX7_count 81 = .ok (.ireturn, 1) := by decide +kernel
theorem dX7_count_82 : decode cX7_count 82 = .ok (.aload_n 0, 1) := by decide +kernel
theorem dX7_count_83 : decode cX7_count 83 = .ok (.getfield 82, 3) := by decide +kernel
theorem dX7_count_86 : decode cX7_count 86 = .ok (.ireturn, 1) := by decide +kernel
theorem dX7_count_87 : decode cX7_count 87 = .ok (.aload_n 0, 1) := by decide +kernel
theorem dX7_count_88 : decode cX7_count 88 = .ok (.getfield 106, 3) := by decide +kernel
theorem dX7_count_91 : decode cX7_count 91 = .ok (.ireturn, 1) := by decide +kernel
theorem dX7_count_92 : decode cX7_count 92 = .ok (.iconst (-1), 1) := by decide +kernel
theorem dX7_count_93 : decode cX7_count 93 = .ok (.ireturn, 1) := by decide +kernel
theorem dJx00060_init_a7421_0 : decode cJx00060_init_a7421 0 = .ok (.aload_n 0, 1) := by decide +kernel
theorem dJx00060_init_a7421_1 : decode cJx00060_init_a7421 1 = .ok (.aload_n 1, 1) := by decide +kernel
theorem dJx00060_init_a7421_2 : decode cJx00060_init_a7421 2 = .ok (.invokespecial 7, 3) := by decide +kernel
theorem dJx00060_init_a7421_5 : decode cJx00060_init_a7421 5 = .ok (.return_, 1) := by decide +kernel
theorem dJ6_bitCount_0f7a4_0 : decode cJ6_bitCount_0f7a4 0 = .ok (.iload_n 0, 1) := by decide +kernel
theorem dJ6_bitCount_0f7a4_1 : decode cJ6_bitCount_0f7a4 1 = .ok (.iload_n 0, 1) := by decide +kernel
theorem dJ6_bitCount_0f7a4_2 : decode cJ6_bitCount_0f7a4 2 = .ok (.iconst 1, 1) := by decide +kernel
theorem dJ6_bitCount_0f7a4_3 : decode cJ6_bitCount_0f7a4 3 = .ok (.iushr, 1) := by decide +kernel
theorem dJ6_bitCount_0f7a4_4 : decode cJ6_bitCount_0f7a4 4 = .ok (.ldc_w 265, 3) := by decide +kernel
theorem dJ6_bitCount_0f7a4_7 : decode cJ6_bitCount_0f7a4 7 = .ok (.iand, 1) := by decide +kernel
theorem dJ6_bitCount_0f7a4_8 : decode cJ6_bitCount_0f7a4 8 = .ok (.isub, 1) := by decide +kernel
theorem dJ6_bitCount_0f7a4_9 : decode cJ6_bitCount_0f7a4 9 = .ok (.istore_n 0, 1) := by decide +kernel
theorem dJ6_bitCount_0f7a4_10 : decode cJ6_bitCount_0f7a4 10 = .ok (.iload_n 0, 1) := by decide +kernel
theorem dJ6_bitCount_0f7a4_11 : decode cJ6_bitCount_0f7a4 11 = .ok (.ldc_w 266, 3) := by decide +kernel
theorem dJ6_bitCount_0f7a4_14 : decode cJ6_bitCount_0f7a4 14 = .ok (.iand, 1) := by decide +kernel
theorem dJ6_bitCount_0f7a4_15 : decode cJ6_bitCount_0f7a4 15 = .ok (.iload_n 0, 1) := by decide +kernel
theorem dJ6_bitCount_0f7a4_16 : decode cJ6_bitCount_0f7a4 16 = .ok (.iconst 2, 1) := by decide +kernel
theorem dJ6_bitCount_0f7a4_17 : decode cJ6_bitCount_0f7a4 17 = .ok (.iushr, 1) := by decide +kernel
theorem dJ6_bitCount_0f7a4_18 : decode cJ6_bitCount_0f7a4 18 = .ok (.ldc_w 266, 3) := by decide +kernel
theorem dJ6_bitCount_0f7a4_21 : decode cJ6_bitCount_0f7a4 21 = .ok (.iand, 1) := by decide +kernel
theorem dJ6_bitCount_0f7a4_22 : decode cJ6_bitCount_0f7a4 22 = .ok (.iadd, 1) := by decide +kernel
theorem dJ6_bitCount_0f7a4_23 : decode cJ6_bitCount_0f7a4 23 = .ok (.istore_n 0, 1) := by decide +kernel
theorem dJ6_bitCount_0f7a4_24 : decode cJ6_bitCount_0f7a4 24 = .ok (.iload_n 0, 1) := by decide +kernel
theorem dJ6_bitCount_0f7a4_25 : decode cJ6_bitCount_0f7a4 25 = .ok (.iload_n 0, 1) := by decide +kernel
theorem dJ6_bitCount_0f7a4_26 : decode cJ6_bitCount_0f7a4 26 = .ok (.iconst 4, 1) := by decide +kernel
theorem dJ6_bitCount_0f7a4_27 : decode cJ6_bitCount_0f7a4 27 = .ok (.iushr, 1) := by decide +kernel
theorem dJ6_bitCount_0f7a4_28 : decode cJ6_bitCount_0f7a4 28 = .ok (.iadd, 1) := by decide +kernel
theorem dJ6_bitCount_0f7a4_29 : decode cJ6_bitCount_0f7a4 29 = .ok (.ldc_w 267, 3) := by decide +kernel
theorem dJ6_bitCount_0f7a4_32 : decode cJ6_bitCount_0f7a4 32 = .ok (.iand, 1) := by decide +kernel
theorem dJ6_bitCount_0f7a4_33 : decode cJ6_bitCount_0f7a4 33 = .ok (.istore_n 0, 1) := by decide +kernel
theorem dJ6_bitCount_0f7a4_34 : decode cJ6_bitCount_0f7a4 34 = .ok (.iload_n 0, 1) := by decide +kernel
theorem dJ6_bitCount_0f7a4_35 : decode cJ6_bitCount_0f7a4 35 = .ok (.iload_n 0, 1) := by decide +kernel
theorem dJ6_bitCount_0f7a4_36 : decode cJ6_bitCount_0f7a4 36 = .ok (.bipush 8, 2) := by decide +kernel
theorem dJ6_bitCount_0f7a4_38 : decode cJ6_bitCount_0f7a4 38 = .ok (.iushr, 1) := by decide +kernel
theorem dJ6_bitCount_0f7a4_39 : decode cJ6_bitCount_0f7a4 39 = .ok (.iadd, 1) := by decide +kernel
theorem dJ6_bitCount_0f7a4_40 : decode cJ6_bitCount_0f7a4 40 = .ok (.istore_n 0, 1) := by decide +kernel
theorem dJ6_bitCount_0f7a4_41 : decode cJ6_bitCount_0f7a4 41 = .ok (.iload_n 0, 1) := by decide +kernel
theorem dJ6_bitCount_0f7a4_42 : decode cJ6_bitCount_0f7a4 42 = .ok (.iload_n 0, 1) := by decide +kernel
theorem dJ6_bitCount_0f7a4_43 : decode cJ6_bitCount_0f7a4 43 = .ok (.bipush 16, 2) := by decide +kernel
theorem dJ6_bitCount_0f7a4_45 : decode cJ6_bitCount_0f7a4 45 = .ok (.iushr, 1) := by decide +kernel
theorem dJ6_bitCount_0f7a4_46 : decode cJ6_bitCount_0f7a4 46 = .ok (.iadd, 1) := by decide +kernel
theorem dJ6_bitCount_0f7a4_47 : decode cJ6_bitCount_0f7a4 47 = .ok (.istore_n 0, 1) := by decide +kernel
theorem dJ6_bitCount_0f7a4_48 : decode cJ6_bitCount_0f7a4 48 = .ok (.iload_n 0, 1) := by decide +kernel
theorem dJ6_bitCount_0f7a4_49 : decode cJ6_bitCount_0f7a4 49 = .ok (.bipush 63, 2) := by decide +kernel
theorem dJ6_bitCount_0f7a4_51 : decode cJ6_bitCount_0f7a4 51 = .ok (.iand, 1) := by decide +kernel
theorem dJ6_bitCount_0f7a4_52 : decode cJ6_bitCount_0f7a4 52 = .ok (.ireturn, 1) := by decide +kernel
theorem dJ9_floorMod_7cf53_0 : decode cJ9_floorMod_7cf53 0 = .ok (.iload_n 0, 1) := by decide +kernel
theorem dJ9_floorMod_7cf53_1 : decode cJ9_floorMod_7cf53 1 = .ok (.iload_n 1, 1) := by decide +kernel
theorem dJ9_floorMod_7cf53_2 : decode cJ9_floorMod_7cf53 2 = .ok (.irem, 1) := by decide +kernel
theorem dJ9_floorMod_7cf53_3 : decode cJ9_floorMod_7cf53 3 = .ok (.istore_n 2, 1) := by decide +kernel
theorem dJ9_floorMod_7cf53_4 : decode cJ9_floorMod_7cf53 4 = .ok (.iload_n 0, 1) := by decide +kernel
theorem dJ9_floorMod_7cf53_5 : decode cJ9_floorMod_7cf53 5 = .ok (.iload_n 1, 1) := by decide +kernel
theorem dJ9_floorMod_7cf53_6 : decode cJ9_floorMod_7cf53 6 = .ok (.ixor, 1) := by decide +kernel
theorem dJ9_floorMod_7cf53_7 : decode cJ9_floorMod_7cf53 7 = .ok (.ifCond .ge 11, 3) := by decide +kernel
theorem dJ9_floorMod_7cf53_10 : decode cJ9_floorMod_7cf53 10 = .ok (.iload_n 2, 1) := by decide +kernel
theorem dJ9_floorMod_7cf53_11 : decode cJ9_floorMod_7cf53 11 = .ok (.ifCond .eq 7, 3) := by decide +kernel
theorem dJ9_floorMod_7cf53_14 : decode cJ9_floorMod_7cf53 14 = .ok (.iload_n 2, 1) := by decide +kernel
theorem dJ9_floorMod_7cf53_15 : decode cJ9_floorMod_7cf53 15 = .ok (.iload_n 1, 1) := by decide +kernel
theorem dJ9_floorMod_7cf53_16 : decode cJ9_floorMod_7cf53 16 = .ok (.iadd, 1) := by decide +kernel
theorem dJ9_floorMod_7cf53_17 : decode cJ9_floorMod_7cf53 17 = .ok (.ireturn, 1) := by decide +kernel
theorem dJ9_floorMod_7cf53_18 : decode cJ9_floorMod_7cf53 18 = .ok (.iload_n 2, 1) := by decide +kernel
theorem dJ9_floorMod_7cf53_19 : decode cJ9_floorMod_7cf53 19 = .ok (.ireturn, 1) := by decide +kernel
theorem dJ9_max_7cf53_0 : decode cJ9_max_7cf53 0 = .ok (.iload_n 0, 1) := by decide +kernel
theorem dJ9_max_7cf53_1 : decode cJ9_max_7cf53 1 = .ok (.iload_n 1, 1) := by decide +kernel
theorem dJ9_max_7cf53_2 : decode cJ9_max_7cf53 2 = .ok (.if_icmp .lt 7, 3) := by decide +kernel
theorem dJ9_max_7cf53_5 : decode cJ9_max_7cf53 5 = .ok (.iload_n 0, 1) := by decide +kernel
theorem dJ9_max_7cf53_6 : decode cJ9_max_7cf53 6 = .ok (.goto 4, 3) := by decide +kernel
theorem dJ9_max_7cf53_9 : decode cJ9_max_7cf53 9 = .ok (.iload_n 1, 1) := by decide +kernel
theorem dJ9_max_7cf53_10 : decode cJ9_max_7cf53 10 = .ok (.ireturn, 1) := by decide +kernel
theorem dJ9_min_7cf53_0 : decode cJ9_min_7cf53 0 = .ok (.iload_n 0, 1) := by decide +kernel
theorem dJ9_min_7cf53_1 : decode cJ9_min_7cf53 1 = .ok (.iload_n 1, 1) := by decide +kernel
theorem dJ9_min_7cf53_2 : decode cJ9_min_7cf53 2 = .ok (.if_icmp .gt 7, 3) := by decide +kernel
theorem dJ9_min_7cf53_5 : decode cJ9_min_7cf53 5 = .ok (.iload_n 0, 1) := by decide +kernel
theorem dJ9_min_7cf53_6 : decode cJ9_min_7cf53 6 = .ok (.goto 4, 3) := by decide +kernel
theorem dJ9_min_7cf53_9 : decode cJ9_min_7cf53 9 = .ok (.iload_n 1, 1) := by decide +kernel
theorem dJ9_min_7cf53_10 : decode cJ9_min_7cf53 10 = .ok (.ireturn, 1) := by decide +kernel
theorem dJ7_fill_53178_0 : decode cJ7_fill_53178 0 = .ok (.iconst 0, 1) := by decide +kernel
theorem dJ7_fill_53178_1 : decode cJ7_fill_53178 1 = .ok (.istore_n 2, 1) := by decide +kernel
theorem dJ7_fill_53178_2 : decode cJ7_fill_53178 2 = .ok (.aload_n 0, 1) := by decide +kernel
theorem dJ7_fill_53178_3 : decode cJ7_fill_53178 3 = .ok (.arraylength, 1) := by decide +kernel
theorem dJ7_fill_53178_4 : decode cJ7_fill_53178 4 = .ok (.istore_n 3, 1) := by decide +kernel
theorem dJ7_fill_53178_5 : decode cJ7_fill_53178 5 = .ok (.iload_n 2, 1) := by decide +kernel
theorem dJ7_fill_53178_6 : decode cJ7_fill_53178 6 = .ok (.iload_n 3, 1) := by decide +kernel
theorem dJ7_fill_53178_7 : decode cJ7_fill_53178 7 = .ok (.if_icmp .ge 13, 3) := by decide +kernel
theorem dJ7_fill_53178_10 : decode cJ7_fill_53178 10 = .ok (.aload_n 0, 1) := by decide +kernel
theorem dJ7_fill_53178_11 : decode cJ7_fill_53178 11 = .ok (.iload_n 2, 1) := by decide +kernel
theorem dJ7_fill_53178_12 : decode cJ7_fill_53178 12 = .ok (.iload_n 1, 1) := by decide +kernel
theorem dJ7_fill_53178_13 : decode cJ7_fill_53178 13 = .ok (.iastore, 1) := by decide +kernel
theorem dJ7_fill_53178_14 : decode cJ7_fill_53178 14 = .ok (.iinc 2 1, 3) := by decide +kernel
theorem dJ7_fill_53178_17 : decode cJ7_fill_53178 17 = .ok (.goto (-12), 3) := by decide +kernel
theorem dJ7_fill_53178_20 : decode cJ7_fill_53178 20 = .ok (.return_, 1) := by decide +kernel
