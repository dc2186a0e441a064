theorem dX7_bit_99 : decode cX7_bit 99 = .ok (.ireturn, 1) := by decide +kernel
theorem dX7_checkOf_0 : decode cX7_checkOf 0 = .ok (.iconst 0, 1) := by decide +kernel
theorem dX7_checkOf_1 : decode cX7_checkOf 1 = .ok (.istore_n 2, 1) := by decide +kernel
theorem dX7_checkOf_2 : decode cX7_checkOf 2 = .ok (.iconst 0, 1) := by decide +kernel
theorem dX7_checkOf_3 : decode cX7_checkOf 3 = .ok (.istore_n 3, 1) := by decide +kernel
theorem dX7_checkOf_4 : decode cX7_checkOf 4 = .ok (.iload_n 3, 1) := by decide +kernel
theorem dX7_checkOf_5 : decode cX7_checkOf 5 = .ok (.iload_n 1, 1) := by decide +kernel
theorem dX7_checkOf_6 : decode cX7_checkOf 6 = .ok (.if_icmp .ge 31, 3) := by decide +kernel
theorem dX7_checkOf_9 : decode cX7_checkOf 9 = .ok (.iload_n 2, 1) := by decide +kernel
theorem dX7_checkOf_10 : decode cX7_checkOf 10 = .ok (.aload_n 0, 1) := by decide +kernel
theorem dX7_checkOf_11 : decode cX7_checkOf 11 = .ok (.iload_n 1, 1) := by decide +kernel
theorem dX7_checkOf_12 : decode cX7_checkOf 12 = .ok (.iconst 1, 1) := by decide +kernel
theorem dX7_checkOf_13 : decode cX7_checkOf 13 = .ok (.isub, 1) := by decide +kernel
theorem dX7_checkOf_14 : decode cX7_checkOf 14 = .ok (.iload_n 3, 1) := by decide +kernel
theorem dX7_checkOf_15 : decode cX7_checkOf 15 = .ok (.isub, 1) := by decide +kernel
theorem dX7_checkOf_16 : decode cX7_checkOf 16 = .ok (.iaload, 1) := by decide +kernel
theorem dX7_checkOf_17 : decode cX7_checkOf 17 = .ok (.iload_n 3, 1) := by decide +kernel
theorem dX7_checkOf_18 : decode cX7_checkOf 18 = .ok (.iconst 2, 1) := by decide +kernel
theorem dX7_checkOf_19 : decode cX7_checkOf 19 = .ok (.irem, 1) := by decide +kernel
theorem dX7_checkOf_20 : decode cX7_checkOf 20 = .ok (.ifCond .ne 7, 3) := by decide +kernel
theorem dX7_checkOf_23 : decode cX7_checkOf 23 = .ok (.iconst 3, 1) := by decide +kernel
theorem dX7_checkOf_24 : decode cX7_checkOf 24 = .ok (.goto 4, 3) := by decide +kernel
theorem dX7_checkOf_27 : decode cX7_checkOf 27 = .ok (.iconst 1, 1) := by decide +kernel
theorem dX7_checkOf_28 : decode cX7_checkOf 28 = .ok (.imul, 1) := by decide +kernel
theorem dX7_checkOf_29 : decode cX7_checkOf 29 = .ok (.iadd, 1) := by decide +kernel
theorem dX7_checkOf_30 : decode cX7_checkOf 30 = .ok (.istore_n 2, 1) := by decide +kernel
theorem dX7_checkOf_31 : decode cX7_checkOf 31 = .ok (.iinc 3 1, 3) := by decide +kernel
theorem dX7_checkOf_34 : decode cX7_checkOf 34 = .ok (.goto (-30), 3) := by decide +kernel
theorem dX7_checkOf_37 : decode cX7_checkOf 37 = .ok (.bipush 10, 2) := by decide +kernel
theorem dX7_checkOf_39 : decode cX7_checkOf 39 = .ok (.iload_n 2, 1) := by decide +kernel
theorem dX7_checkOf_40 : decode cX7_checkOf 40 = .ok (.bipush 10, 2) := by decide +kernel
theorem dX7_checkOf_42 : decode cX7_checkOf 42 = .ok (.irem, 1) := by decide +kernel
theorem dX7_checkOf_43 : decode cX7_checkOf 43 = .ok (.isub, 1) := by decide +kernel
theorem dX7_checkOf_44 : decode cX7_checkOf 44 = .ok (.bipush 10, 2) := by decide +kernel
theorem dX7_checkOf_46 : decode cX7_checkOf 46 = .ok (.irem, 1) := by decide +kernel
theorem dX7_checkOf_47 : decode cX7_checkOf 47 = .ok (.ireturn, 1) := by decide +kernel
theorem dX7_put_0 : decode cX7_put 0 = .ok (.aload_n 0, 1) := by decide +kernel
theorem dX7_put_1 : decode cX7_put 1 = .ok (.getfield 64, 3) := by decide +kernel
theorem dX7_put_4 : decode cX7_put 4 = .ok (.aload_n 0, 1) := by decide +kernel
theorem dX7_put_5 : decode cX7_put 5 = .ok (.getfield 61, 3) := by decide +kernel
theorem dX7_put_8 : decode cX7_put 8 = .ok (.iload_n 1, 1) := by decide +kernel
theorem dX7_put_9 : decode cX7_put 9 = .ok (.iastore, 1) := by decide +kernel
theorem dX7_put_10 : decode cX7_put 10 = .ok (.aload_n 0, 1) := by decide +kernel
theorem dX7_put_11 : decode cX7_put 11 = .ok (.dup, 1) := by decide +kernel
theorem dX7_put_12 : decode cX7_put 12 = .ok (.getfield 61, 3) := by decide +kernel
theorem dX7_put_15 : decode cX7_put 15 = .ok (.iconst 1, 1) := by decide +kernel
theorem dX7_put_16 : decode cX7_put 16 = .ok (.iadd, 1) := by decide +kernel
theorem dX7_put_17 : decode cX7_put 17 = .ok (.putfield 61, 3) := by decide +kernel
theorem dX7_put_20 : decode cX7_put 20 = .ok (.return_, 1) := by decide +kernel
theorem dX7_width_0 : decode cX7_width 0 = .ok (.aload_n 0, 1) := by decide +kernel
theorem dX7_width_1 : decode cX7_width 1 = .ok (.getfield 106, 3) := by decide +kernel
theorem dX7_width_4 : decode cX7_width 4 = .ok (.ifCond .ne 7, 3) := by decide +kernel
theorem dX7_width_7 : decode cX7_width 7 = .ok (.iconst 4, 1) := by decide +kernel
theorem dX7_width_8 : decode cX7_width 8 = .ok (.goto 5, 3) := by decide +kernel
theorem dX7_width_11 : decode cX7_width 11 = .ok (.bipush 7, 2) := by decide +kernel
theorem dX7_width_13 : decode cX7_width 13 = .ok (.ireturn, 1) := by decide +kernel
theorem dX7_place_0 : decode cX7_place 0 = .ok (.aload_n 0, 1) := by decide +kernel
theorem dX7_place_1 : decode cX7_place 1 = .ok (.getfield 106, 3) := by decide +kernel
theorem dX7_place_4 : decode cX7_place 4 = .ok (.iconst 2, 1) := by decide +kernel
theorem dX7_place_5 : decode cX7_place 5 = .ok (.if_icmp .ne 11, 3) := by decide +kernel
theorem dX7_place_8 : decode cX7_place 8 = .ok (.iload_n 2, 1) := by decide +kernel
theorem dX7_place_9 : decode cX7_place 9 = .ok (.iload_n 3, 1) := by decide +kernel
theorem dX7_place_10 : decode cX7_place 10 = .ok (.imul, 1) := by decide +kernel
theorem dX7_place_11 : decode cX7_place 11 = .ok (.iload_n 1, 1) := by decide +kernel
theorem dX7_place_12 : decode cX7_place 12 = .ok (.iadd, 1) := by decide +kernel
theorem dX7_place_13 : decode cX7_place 13 = .ok (.goto 11, 3) := by decide +kernel
theorem dX7_place_16 : decode cX7_place 16 = .ok (.aload_n 0, 1) := by decide +kernel
theorem dX7_place_17 : decode cX7_place 17 = .ok (.invokevirtual 109, 3) := by decide +kernel
theorem dX7_place_20 : decode cX7_place 20 = .ok (.iload_n 1, 1) := by decide +kernel
theorem dX7_place_21 : decode cX7_place 21 = .ok (.imul, 1) := by decide +kernel
theorem dX7_place_22 : decode cX7_place 22 = .ok (.iload_n 2, 1) := by decide +kernel
theorem dX7_place_23 : decode cX7_place 23 = .ok (.iadd, 1) := by decide +kernel
theorem dX7_place_24 : decode cX7_place 24 = .ok (.ireturn, 1) := by decide +kernel
theorem dX7_mend_0 : decode cX7_mend 0 = .ok (.iconst 0, 1) := by decide +kernel
theorem dX7_mend_1 : decode cX7_mend 1 = .ok (.istore_n 3, 1) := by decide +kernel
theorem dX7_mend_2 : decode cX7_mend 2 = .ok (.iload_n 3, 1) := by decide +kernel
theorem dX7_mend_3 : decode cX7_mend 3 = .ok (.bipush 16, 2) := by decide +kernel
theorem dX7_mend_5 : decode cX7_mend 5 = .ok (.if_icmp .ge 144, 3) := by decide +kernel
theorem dX7_mend_8 : decode cX7_mend 8 = .ok (.iconst 0, 1) := by decide +kernel
theorem dX7_mend_9 : decode cX7_mend 9 = .ok (.istore 4, 2) := by decide +kernel
theorem dX7_mend_11 : decode cX7_mend 11 = .ok (.iconst 0, 1) := by decide +kernel
theorem dX7_mend_12 : decode cX7_mend 12 = .ok (.istore 5, 2) := by decide +kernel
theorem dX7_mend_14 : decode cX7_mend 14 = .ok (.iconst 0, 1) := by decide +kernel
theorem dX7_mend_15 : decode cX7_mend 15 = .ok (.istore 6, 2) := by decide +kernel
theorem dX7_mend_17 : decode cX7_mend 17 = .ok (.iload 6, 2) := by decide +kernel
theorem dX7_mend_19 : decode cX7_mend 19 = .ok (.aload_n 0, 1) := by decide +kernel
theorem dX7_mend_20 : decode cX7_mend 20 = .ok (.invokevirtual 109, 3) := by decide +kernel
theorem dX7_mend_23 : decode cX7_mend 23 = .ok (.if_icmp .ge 50, 3) := by decide +kernel
theorem dX7_mend_26 : decode cX7_mend 26 = .ok (.aload_n 0, 1) := by decide +kernel
theorem dX7_mend_27 : decode cX7_mend 27 = .ok (.getfield 49, 3) := by decide +kernel
theorem dX7_mend_30 : decode cX7_mend 30 = .ok (.aload_n 0, 1) := by decide +kernel
theorem dX7_mend_31 : decode cX7_mend 31 = .ok (.iload_n 1, 1) := by decide +kernel
theorem dX7_mend_32 : decode cX7_mend 32 = .ok (.iload 6, 2) := by decide +kernel
theorem dX7_mend_34 : decode cX7_mend 34 = .ok (.iload_n 2, 1) := by decide +kernel
theorem dX7_mend_35 : decode cX7_mend 35 = .ok (.invokevirtual 113, 3) := by decide +kernel
theorem dX7_mend_38 : decode cX7_mend 38 = .ok (.iaload, 1) := by decide +kernel
theorem dX7_mend_39 : decode cX7_mend 39 = .ok (.istore 7, 2) := by decide +kernel
theorem dX7_mend_41 : decode cX7_mend 41 = .ok (.iload 7, 2) := by decide +kernel
theorem dX7_mend_43 : decode cX7_mend 43 = .ok (.iconst 2, 1) := by decide +kernel
theorem dX7_mend_44 : decode cX7_mend 44 = .ok (.if_icmp .ne 9, 3) := by decide +kernel
theorem dX7_mend_47 : decode cX7_mend 47 = .ok (.iinc 5 1, 3) := by decide +kernel
theorem dX7_mend_50 : decode cX7_mend 50 = .ok (.goto 17, 3) := by decide +kernel
theorem dX7_mend_53 : decode cX7_mend 53 = .ok (.iload 7, 2) := by decide +kernel
theorem dX7_mend_55 : decode cX7_mend 55 = .ok (.iload_n 3, 1) := by decide +kernel
theorem dX7_mend_56 : decode cX7_mend 56 = .ok (.iload 6, 2) := by decide +kernel
theorem dX7_mend_58 : decode cX7_mend 58 = .ok (.invokestatic 117, 3) := by decide +kernel
theorem dX7_mend_61 : decode cX7_mend 61 = .ok (.if_icmp .eq 6, 3) := by decide +kernel
theorem dX7_mend_64 : decode cX7_mend 64 = .ok (.iinc 4 1, 3) := by decide +kernel
theorem dX7_mend_67 : decode cX7_mend 67 = .ok (.iinc 6 1, 3) := by decide +kernel
theorem dX7_mend_70 : decode cX7_mend 70 = .ok (.goto (-53), 3) := by decide +kernel
theorem dX7_mend_73 : decode cX7_mend 73 = .ok (.aload_n 0, 1) := by decide +kernel
theorem dX7_mend_74 : decode cX7_mend 74 = .ok (.getfield 106, 3) := by decide +kernel
theorem dX7_mend_77 : decode cX7_mend 77 = .ok (.ifCond .ne 19, 3) := by decide +kernel
theorem dX7_mend_80 : decode cX7_mend 80 = .ok (.iload 4, 2) := by decide +kernel
theorem dX7_mend_82 : decode cX7_mend 82 = .ok (.iload 5, 2) := by decide +kernel
theorem dX7_mend_84 : decode cX7_mend 84 = .ok (.iadd, 1) := by decide +kernel
theorem dX7_mend_85 : decode cX7_mend 85 = .ok (.ifCond .ne 7, 3) := by decide +kernel
theorem dX7_mend_88 : decode cX7_mend 88 = .ok (.iconst 1, 1) := by decide +kernel
theorem dX7_mend_89 : decode cX7_mend 89 = .ok (.goto 23, 3) := by decide +kernel
theorem dX7_mend_92 : decode cX7_mend 92 = .ok (.iconst 0, 1) := by decide +kernel
theorem dX7_mend_93 : decode cX7_mend 93 = .ok (.goto 19, 3) := by decide +kernel
theorem dX7_mend_96 : decode cX7_mend 96 = .ok (.iconst 2, 1) := by decide +kernel
theorem dX7_mend_97 : decode cX7_mend 97 = .ok (.iload 4, 2) := by decide +kernel
theorem dX7_mend_99 : decode cX7_mend 99 = .ok (.imul, 1) := by decide +kernel
theorem dX7_mend_100 : decode cX7_mend 100 = .ok (.iload 5, 2) := by decide +kernel
theorem dX7_mend_102 : decode cX7_mend 102 = .ok (.iadd, 1) := by decide +kernel
theorem dX7_mend_103 : decode cX7_mend 103 = .ok (.iconst 2, 1) := by decide +kernel
theorem dX7_mend_104 : decode cX7_mend 104 = .ok (.if_icmp .gt 7, 3) := by decide +kernel
theorem dX7_mend_107 : decode cX7_mend 107 = .ok (.iconst 1, 1) := by decide +kernel
theorem dX7_mend_108 : decode cX7_mend 108 = .ok (.goto 4, 3) := by decide +kernel
theorem dX7_mend_111 : decode cX7_mend 111 = .ok (.iconst 0, 1) := by decide +kernel
theorem dX7_mend_112 : decode cX7_mend 112 = .ok (.istore 6, 2) := by decide +kernel
theorem dX7_mend_114 : decode cX7_mend 114 = .ok (.iload 6, 2) := by decide +kernel
theorem dX7_mend_116 : decode cX7_mend 116 = .ok (.ifCond .eq 27, 3) := by decide +kernel
theorem dX7_mend_119 : decode cX7_mend 119 = .ok (.iload_n 3, 1) := by decide +kernel
theorem dX7_mend_120 : decode cX7_mend 120 = .ok (.bipush 10, 2) := by decide +kernel
theorem dX7_mend_122 : decode cX7_mend 122 = .ok (.if_icmp .le 5, 3) := by decide +kernel
theorem dX7_mend_125 : decode cX7_mend 125 = .ok (.iconst (-1), 1) := by decide +kernel
theorem dX7_mend_126 : decode cX7_mend 126 = .ok (.ireturn, 1) := by decide +kernel
theorem dX7_mend_127 : decode cX7_mend 127 = .ok (.aload_n 0, 1) := by decide +kernel
theorem dX7_mend_128 : decode cX7_mend 128 = .ok (.dup, 1) := by decide +kernel
theorem dX7_mend_129 : decode cX7_mend 129 = .ok (.getfield 58, 3) := by decide +kernel
theorem dX7_mend_132 : decode cX7_mend 132 = .ok (.iload 4, 2) := by decide +kernel
theorem dX7_mend_134 : decode cX7_mend 134 = .ok (.iload 5, 2) := by decide +kernel
theorem dX7_mend_136 : decode cX7_mend 136 = .ok (.iadd, 1) := by decide +kernel
theorem dX7_mend_137 : decode cX7_mend 137 = .ok (.iadd, 1) := by decide +kernel
theorem dX7_mend_138 : decode cX7_mend 138 = .ok (.putfield 58, 3) := by decide +kernel
theorem dX7_mend_141 : decode cX7_mend 141 = .ok (.iload_n 3, 1) := by decide +kernel
theorem dX7_mend_142 : decode cX7_mend 142 = .ok (.ireturn, 1) := by decide +kernel
theorem dX7_mend_143 : decode cX7_mend 143 = .ok (.iinc 3 1, 3) := by decide +kernel
theorem dX7_mend_146 : decode cX7_mend 146 = .ok (.goto (-144), 3) := by decide +kernel
theorem dX7_mend_149 : decode cX7_mend 149 = .ok (.iconst (-1), 1) := by decide +kernel
theorem dX7_mend_150 : decode cX7_mend 150 = .ok (.ireturn, 1) := by decide +kernel
theorem dX7_forget_0 : decode cX7_forget 0 = .ok (.aload_n 0, 1) := by decide +kernel
theorem dX7_forget_1 : decode cX7_forget 1 = .ok (.iconst 0, 1) := by decide +kernel
theorem dX7_forget_2 : decode cX7_forget 2 = .ok (.putfield 67, 3) := by decide +kernel
theorem dX7_forget_5 : decode cX7_forget 5 = .ok (.aload_n 0, 1) := by decide +kernel
theorem dX7_forget_6 : decode cX7_forget 6 = .ok (.iconst (-1), 1) := by decide +kernel
theorem dX7_forget_7 : decode cX7_forget 7 = .ok (.putfield 79, 3) := by decide +kernel
theorem dX7_forget_10 : decode cX7_forget 10 = .ok (.return_, 1) := by decide +kernel
theorem dX7_takeApart_0 : decode cX7_takeApart 0 = .ok (.aload_n 0, 1) := by decide +kernel
theorem dX7_takeApart_1 : decode cX7_takeApart 1 = .ok (.invokevirtual 121, 3) := by decide +kernel
theorem dX7_takeApart_4 : decode cX7_takeApart 4 = .ok (.aload_n 0, 1) := by decide +kernel
theorem dX7_takeApart_5 : decode cX7_takeApart 5 = .ok (.getfield 61, 3) := by decide +kernel
theorem dX7_takeApart_8 : decode cX7_takeApart 8 = .ok (.iconst 1, 1) := by decide +kernel
theorem dX7_takeApart_9 : decode cX7_takeApart 9 = .ok (.isub, 1) := by decide +kernel
theorem dX7_takeApart_10 : decode cX7_takeApart 10 = .ok (.istore_n 1, 1) := by decide +kernel
theorem dX7_takeApart_11 : decode cX7_takeApart 11 = .ok (.aload_n 0, 1) := by decide +kernel
theorem dX7_takeApart_12 : decode cX7_takeApart 12 = .ok (.getfield 61, 3) := by decide +kernel
theorem dX7_takeApart_15 : decode cX7_takeApart 15 = .ok (.iconst 4, 1) := by decide +kernel
theorem dX7_takeApart_16 : decode cX7_takeApart 16 = .ok (.if_icmp .lt 14, 3) := by decide +kernel
theorem dX7_takeApart_19 : decode cX7_takeApart 19 = .ok (.aload_n 0, 1) := by decide +kernel
theorem dX7_takeApart_20 : decode cX7_takeApart 20 = .ok (.getfield 64, 3) := by decide +kernel
theorem dX7_takeApart_23 : decode cX7_takeApart 23 = .ok (.iload_n 1, 1) := by decide +kernel
theorem dX7_takeApart_24 : decode cX7_takeApart 24 = .ok (.iaload, 1) := by decide +kernel
theorem dX7_takeApart_25 : decode cX7_takeApart 25 = .ok (.bipush 10, 2) := by decide +kernel
theorem dX7_takeApart_27 : decode cX7_takeApart 27 = .ok (.if_icmp .ne 5, 3) := by decide +kernel
theorem dX7_takeApart_30 : decode cX7_takeApart 30 = .ok (.iconst (-1), 1) := by decide +kernel
theorem dX7_takeApart_31 : decode cX7_takeApart 31 = .ok (.ireturn, 1) := by decide +kernel
theorem dX7_takeApart_32 : decode cX7_takeApart 32 = .ok (.aload_n 0, 1) := by decide +kernel
theorem dX7_takeApart_33 : decode cX7_takeApart 33 = .ok (.getfield 64, 3) := by decide +kernel
theorem dX7_takeApart_36 : decode cX7_takeApart 36 = .ok (.iload_n 1, 1) := by decide +kernel
theorem dX7_takeApart_37 : decode cX7_takeApart 37 = .ok (.invokestatic 124, 3) := by decide +kernel
theorem dX7_takeApart_40 : decode cX7_takeApart 40 = .ok (.aload_n 0, 1) := by decide +kernel
theorem dX7_takeApart_41 : decode cX7_takeApart 41 = .ok (.getfield 64, 3) := by decide +kernel
theorem dX7_takeApart_44 : decode cX7_takeApart 44 = .ok (.iload_n 1, 1) := by decide +kernel
theorem dX7_takeApart_45 : decode cX7_takeApart 45 = .ok (.iaload, 1) := by decide +kernel
theorem dX7_takeApart_46 : decode cX7_takeApart 46 = .ok (.if_icmp .eq 6, 3) := by decide +kernel
theorem dX7_takeApart_49 : decode cX7_takeApart 49 = .ok (.bipush (-2), 2) := by decide +kernel
theorem dX7_takeApart_51 : decode cX7_takeApart 51 = .ok (.ireturn, 1) := by decide +kernel
theorem dX7_takeApart_52 : decode cX7_takeApart 52 = .ok (.iconst 0, 1) := by decide +kernel
theorem dX7_takeApart_53 : decode cX7_takeApart 53 = .ok (.istore_n 2, 1) := by decide +kernel
theorem dX7_takeApart_54 : decode cX7_takeApart 54 = .ok (.iconst 0, 1) := by decide +kernel
theorem dX7_takeApart_55 : decode cX7_takeApart 55 = .ok (.istore_n 3, 1) := by decide +kernel
theorem dX7_takeApart_56 : decode cX7_takeApart 56 = .ok (.iload_n 2, 1) := by decide +kernel
theorem dX7_takeApart_57 : decode cX7_takeApart 57 = .ok (.iload_n 1, 1) := by decide +kernel
theorem dX7_takeApart_58 : decode cX7_takeApart 58 = .ok (.if_icmp .ge 322, 3) := by decide +kernel
theorem dX7_takeApart_61 : decode cX7_takeApart 61 = .ok (.iload_n 3, 1) := by decide +kernel
theorem dX7_takeApart_62 : decode cX7_takeApart 62 = .ok (.bipush 6, 2) := by decide +kernel
theorem dX7_takeApart_64 : decode cX7_takeApart 64 = .ok (.if_icmp .ne 6, 3) := by decide +kernel
theorem dX7_takeApart_67 : decode cX7_takeApart 67 = .ok (.bipush (-3), 2) := by decide +kernel
theorem dX7_takeApart_69 : decode cX7_takeApart 69 = .ok (.ireturn, 1) := by decide +kernel
theorem dX7_takeApart_70 : decode cX7_takeApart 70 = .ok (.iload_n 2, 1) := by decide +kernel
theorem dX7_takeApart_71 : decode cX7_takeApart 71 = .ok (.iconst 1, 1) := by decide +kernel
theorem dX7_takeApart_72 : decode cX7_takeApart 72 = .ok (.iadd, 1) := by decide +kernel
theorem dX7_takeApart_73 : decode cX7_takeApart 73 = .ok (.iload_n 1, 1) := by decide +kernel
theorem dX7_takeApart_74 : decode cX7_takeApart 74 = .ok (.if_icmp .ge 31, 3) := by decide +kernel
theorem dX7_takeApart_77 : decode cX7_takeApart 77 = .ok (.aload_n 0, 1) := by decide +kernel
theorem dX7_takeApart_78 : decode cX7_takeApart 78 = .ok (.getfield 64, 3) := by decide +kernel
theorem dX7_takeApart_81 : decode cX7_takeApart 81 = .ok (.iload_n 2, 1) := by decide +kernel
theorem dX7_takeApart_82 : decode cX7_takeApart 82 = .ok (.iaload, 1) := by decide +kernel
theorem dX7_takeApart_83 : decode cX7_takeApart 83 = .ok (.bipush 10, 2) := by decide +kernel
theorem dX7_takeApart_85 : decode cX7_takeApart 85 = .ok (.if_icmp .ge 20, 3) := by decide +kernel
theorem dX7_takeApart_88 : decode cX7_takeApart 88 = .ok (.aload_n 0, 1) := by decide +kernel
theorem dX7_takeApart_89 : decode cX7_takeApart 89 = .ok (.getfield 64, 3) := by decide +kernel
theorem dX7_takeApart_92 : decode cX7_takeApart 92 = .ok (.iload_n 2, 1) := by decide +kernel
theorem dX7_takeApart_93 : decode cX7_takeApart 93 = .ok (.iconst 1, 1) := by decide +kernel
theorem dX7_takeApart_94 : decode cX7_takeApart 94 = .ok (.iadd, 1) := by decide +kernel
theorem dX7_takeApart_95 : decode cX7_takeApart 95 = .ok (.iaload, 1) := by decide +kernel
theorem dX7_takeApart_96 : decode cX7_takeApart 96 = .ok (.bipush 10, 2) := by decide +kernel
theorem dX7_takeApart_98 : decode cX7_takeApart 98 = .ok (.if_icmp .ge 7, 3) := by decide +kernel
theorem dX7_takeApart_101 : decode cX7_takeApart 101 = .ok (.iconst 1, 1) := by decide +kernel
theorem dX7_takeApart_102 : decode cX7_takeApart 102 = .ok (.goto 4, 3) := by decide +kernel
theorem dX7_takeApart_105 : decode cX7_takeApart 105 = .ok (.iconst 0, 1) := by decide +kernel
theorem dX7_takeApart_106 : decode cX7_takeApart 106 = .ok (.istore 4, 2) := by decide +kernel
theorem dX7_takeApart_108 : decode cX7_takeApart 108 = .ok (.iload 4, 2) := by decide +kernel
theorem dX7_takeApart_110 : decode cX7_takeApart 110 = .ok (.ifCond .eq 24, 3) := by decide +kernel
theorem dX7_takeApart_113 : decode cX7_takeApart 113 = .ok (.bipush 10, 2) := by decide +kernel
theorem dX7_takeApart_115 : decode cX7_takeApart 115 = .ok (.aload_n 0, 1) := by decide +kernel
theorem dX7_takeApart_116 : decode cX7_takeApart 116 = .ok (.getfield 64, 3) := by decide +kernel
theorem dX7_takeApart_119 : decode cX7_takeApart 119 = .ok (.iload_n 2, 1) := by decide +kernel
theorem dX7_takeApart_120 : decode cX7_takeApart 120 = .ok (.iaload, 1) := by decide +kernel
theorem dX7_takeApart_121 : decode cX7_takeApart 121 = .ok (.imul, 1) := by decide +kernel
theorem dX7_takeApart_122 : decode cX7_takeApart 122 = .ok (.aload_n 0, 1) := by decide +kernel
theorem dX7_takeApart_123 : decode cX7_takeApart 123 = .ok (.getfield 64, 3) := by decide +kernel
theorem dX7_takeApart_126 : decode cX7_takeApart 126 = .ok (.iload_n 2, 1) := by decide +kernel
theorem dX7_takeApart_127 : decode cX7_takeApart 127 = .ok (.iconst 1, 1) := by decide +kernel
theorem dX7_takeApart_128 : decode cX7_takeApart 128 = .ok (.iadd, 1) := by decide +kernel
theorem dX7_takeApart_129 : decode cX7_takeApart 129 = .ok (.iaload, 1) := by decide +kernel
theorem dX7_takeApart_130 : decode cX7_takeApart 130 = .ok (.iadd, 1) := by decide +kernel
theorem dX7_takeApart_131 : decode cX7_takeApart 131 = .ok (.goto 4, 3) := by decide +kernel
theorem dX7_takeApart_134 : decode cX7_takeApart 134 = .ok (.iconst (-1), 1) := by decide +kernel
theorem dX7_takeApart_135 : decode cX7_takeApart 135 = .ok (.istore 5, 2) := by decide +kernel
theorem dX7_takeApart_137 : decode cX7_takeApart 137 = .ok (.aload_n 0, 1) := by decide +kernel
theorem dX7_takeApart_138 : decode cX7_takeApart 138 = .ok (.iload 5, 2) := by decide +kernel
theorem dX7_takeApart_140 : decode cX7_takeApart 140 = .ok (.invokevirtual 128, 3) := by decide +kernel
theorem dX7_takeApart_143 : decode cX7_takeApart 143 = .ok (.ifCond .ne 12, 3) := by decide +kernel
theorem dX7_takeApart_146 : decode cX7_takeApart 146 = .ok (.aload_n 0, 1) := by decide +kernel
theorem dX7_takeApart_147 : decode cX7_takeApart 147 = .ok (.iload 5, 2) := by decide +kernel
theorem dX7_takeApart_149 : decode cX7_takeApart 149 = .ok (.putfield 79, 3) := by decide +kernel
theorem dX7_takeApart_152 : decode cX7_takeApart 152 = .ok (.bipush (-4), 2) := by decide +kernel
theorem dX7_takeApart_154 : decode cX7_takeApart 154 = .ok (.ireturn, 1) := by decide +kernel
theorem dX7_takeApart_155 : decode cX7_takeApart 155 = .ok (.iconst 0, 1) := by decide +kernel
theorem dX7_takeApart_156 : decode cX7_takeApart 156 = .ok (.istore 6, 2) := by decide +kernel
theorem dX7_takeApart_158 : decode cX7_takeApart 158 = .ok (.iload 6, 2) := by decide +kernel
theorem dX7_takeApart_160 : decode cX7_takeApart 160 = .ok (.iload_n 3, 1) := by decide +kernel
theorem dX7_takeApart_161 : decode cX7_takeApart 161 = .ok (.if_icmp .ge 24, 3) := by decide +kernel
theorem dX7_takeApart_164 : decode cX7_takeApart 164 = .ok (.aload_n 0, 1) := by decide +kernel
theorem dX7_takeApart_165 : decode cX7_takeApart 165 = .ok (.getfield 70, 3) := by decide +kernel
theorem dX7_takeApart_168 : decode cX7_takeApart 168 = .ok (.iload 6, 2) := by decide +kernel
theorem dX7_takeApart_170 : decode cX7_takeApart 170 = .ok (.iaload, 1) := by decide +kernel
theorem dX7_takeApart_171 : decode cX7_takeApart 171 = .ok (.iload 5, 2) := by decide +kernel
theorem dX7_takeApart_173 : decode cX7_takeApart 173 = .ok (.if_icmp .ne 6, 3) := by decide +kernel
theorem dX7_takeApart_176 : decode cX7_takeApart 176 = .ok (.bipush (-4), 2) := by decide +kernel
theorem dX7_takeApart_178 : decode cX7_takeApart 178 = .ok (.ireturn, 1) := by decide +kernel
theorem dX7_takeApart_179 : decode cX7_takeApart 179 = .ok (.iinc 6 1, 3) := by decide +kernel
theorem dX7_takeApart_182 : decode cX7_takeApart 182 = .ok (.goto (-24), 3) := by decide +kernel
theorem dX7_takeApart_185 : decode cX7_takeApart 185 = .ok (.iinc 2 2, 3) := by decide +kernel
theorem dX7_takeApart_188 : decode cX7_takeApart 188 = .ok (.iload_n 2, 1) := by decide +kernel
theorem dX7_takeApart_189 : decode cX7_takeApart 189 = .ok (.istore 6, 2) := by decide +kernel
theorem dX7_takeApart_191 : decode cX7_takeApart 191 = .ok (.aload_n 0, 1) := by decide +kernel
theorem dX7_takeApart_192 : decode cX7_takeApart 192 = .ok (.getfield 17, 3) := by decide +kernel
theorem dX7_takeApart_195 : decode cX7_takeApart 195 = .ok (.iload 5, 2) := by decide +kernel
theorem dX7_takeApart_197 : decode cX7_takeApart 197 = .ok (.baload, 1) := by decide +kernel
theorem dX7_takeApart_198 : decode cX7_takeApart 198 = .ok (.ifCond .eq 23, 3) := by decide +kernel
theorem dX7_takeApart_201 : decode cX7_takeApart 201 = .ok (.iload_n 2, 1) := by decide +kernel
theorem dX7_takeApart_202 : decode cX7_takeApart 202 = .ok (.aload_n 0, 1) := by decide +kernel
theorem dX7_takeApart_203 : decode cX7_takeApart 203 = .ok (.getfield 13, 3) := by decide +kernel
theorem dX7_takeApart_206 : decode cX7_takeApart 206 = .ok (.iload 5, 2) := by decide +kernel
theorem dX7_takeApart_208 : decode cX7_takeApart 208 = .ok (.iaload, 1) := by decide +kernel
theorem dX7_takeApart_209 : decode cX7_takeApart 209 = .ok (.iadd, 1) := by decide +kernel
theorem dX7_takeApart_210 : decode cX7_takeApart 210 = .ok (.istore 6, 2) := by decide +kernel
theorem dX7_takeApart_212 : decode cX7_takeApart 212 = .ok (.iload 6, 2) := by decide +kernel
theorem dX7_takeApart_214 : decode cX7_takeApart 214 = .ok (.iload_n 1, 1) := by decide +kernel
theorem dX7_takeApart_215 : decode cX7_takeApart 215 = .ok (.if_icmp .le 53, 3) := by decide +kernel
theorem dX7_takeApart_218 : decode cX7_takeApart 218 = .ok (.bipush (-5), 2) := by decide +kernel
theorem dX7_takeApart_220 : decode cX7_takeApart 220 = .ok (.ireturn, 1) := by decide +kernel
theorem dX7_takeApart_221 : decode cX7_takeApart 221 = .ok (.iload 6, 2) := by decide +kernel
theorem dX7_takeApart_223 : decode cX7_takeApart 223 = .ok (.iload_n 1, 1) := by decide +kernel
theorem dX7_takeApart_224 : decode cX7_takeApart 224 = .ok (.if_icmp .ge 21, 3) := by decide +kernel
theorem dX7_takeApart_227 : decode cX7_takeApart 227 = .ok (.aload_n 0, 1) := by decide +kernel
theorem dX7_takeApart_228 : decode cX7_takeApart 228 = .ok (.getfield 64, 3) := by decide +kernel
theorem dX7_takeApart_231 : decode cX7_takeApart 231 = .ok (.iload 6, 2) := by decide +kernel
theorem dX7_takeApart_233 : decode cX7_takeApart 233 = .ok (.iaload, 1) := by decide +kernel
theorem dX7_takeApart_234 : decode cX7_takeApart 234 = .ok (.bipush 10, 2) := by decide +kernel
theorem dX7_takeApart_236 : decode cX7_takeApart 236 = .ok (.if_icmp .eq 9, 3) := by decide +kernel
theorem dX7_takeApart_239 : decode cX7_takeApart 239 = .ok (.iinc 6 1, 3) := by decide +kernel
theorem dX7_takeApart_242 : decode cX7_takeApart 242 = .ok (.goto (-21), 3) := by decide +kernel
theorem dX7_takeApart_245 : decode cX7_takeApart 245 = .ok (.iload 6, 2) := by decide +kernel
theorem dX7_takeApart_247 : decode cX7_takeApart 247 = .ok (.iload_n 2, 1) := by decide +kernel
theorem dX7_takeApart_248 : decode cX7_takeApart 248 = .ok (.if_icmp .eq 17, 3) := by decide +kernel
theorem dX7_takeApart_251 : decode cX7_takeApart 251 = .ok (.iload 6, 2) := by decide +kernel
theorem dX7_takeApart_253 : decode cX7_takeApart 253 = .ok (.iload_n 2, 1) := by decide +kernel
theorem dX7_takeApart_254 : decode cX7_takeApart 254 = .ok (.isub, 1) := by decide +kernel
theorem dX7_takeApart_255 : decode cX7_takeApart 255 = .ok (.aload_n 0, 1) := by decide +kernel
theorem dX7_takeApart_256 : decode cX7_takeApart 256 = .ok (.getfield 13, 3) := by decide +kernel
theorem dX7_takeApart_259 : decode cX7_takeApart 259 = .ok (.iload 5, 2) := by decide +kernel
theorem dX7_takeApart_261 : decode cX7_takeApart 261 = .ok (.iaload, 1) := by decide +kernel
theorem dX7_takeApart_262 : decode cX7_takeApart 262 = .ok (.if_icmp .le 6, 3) := by decide +kernel
theorem dX7_takeApart_265 : decode cX7_takeApart 265 = .ok (.bipush (-5), 2) := by decide +kernel
theorem dX7_takeApart_267 : decode cX7_takeApart 267 = .ok (.ireturn, 1) := by decide +kernel
theorem dX7_takeApart_268 : decode cX7_takeApart 268 = .ok (.lconst 0, 1) := by decide +kernel
theorem dX7_takeApart_269 : decode cX7_takeApart 269 = .ok (.lstore 7, 2) := by decide +kernel
theorem dX7_takeApart_271 : decode cX7_takeApart 271 = .ok (.iload_n 2, 1) := by decide +kernel
theorem dX7_takeApart_272 : decode cX7_takeApart 272 = .ok (.istore 9, 2) := by decide +kernel
theorem dX7_takeApart_274 : decode cX7_takeApart 274 = .ok (.iload 9, 2) := by decide +kernel
theorem dX7_takeApart_276 : decode cX7_takeApart 276 = .ok (.iload 6, 2) := by decide +kernel
theorem dX7_takeApart_278 : decode cX7_takeApart 278 = .ok (.if_icmp .ge 41, 3) := by decide +kernel
theorem dX7_takeApart_281 : decode cX7_takeApart 281 = .ok (.aload_n 0, 1) := by decide +kernel
theorem dX7_takeApart_282 : decode cX7_takeApart 282 = .ok (.getfield 64, 3) := by decide +kernel
theorem dX7_takeApart_285 : decode cX7_takeApart 285 = .ok (.iload 9, 2) := by decide +kernel
theorem dX7_takeApart_287 : decode cX7_takeApart 287 = .ok (.iaload, 1) := by decide +kernel
theorem dX7_takeApart_288 : decode cX7_takeApart 288 = .ok (.bipush 10, 2) := by decide +kernel
theorem dX7_takeApart_290 : decode cX7_takeApart 290 = .ok (.if_icmp .ne 6, 3) := by decide +kernel
theorem dX7_takeApart_293 : decode cX7_takeApart 293 = .ok (.bipush (-6), 2) := by decide +kernel
theorem dX7_takeApart_295 : decode cX7_takeApart 295 = .ok (.ireturn, 1) := by decide +kernel
theorem dX7_takeApart_296 : decode cX7_takeApart 296 = .ok (.ldc2_w 132, 3) := by decide +kernel
theorem dX7_takeApart_299 : decode cX7_takeApart 299 = .ok (.lload 7, 2) := by decide +kernel
theorem dX7_takeApart_301 : decode cX7_takeApart 301 = .ok (.lmul, 1) := by decide +kernel
theorem dX7_takeApart_302 : decode cX7_takeApart 302 = .ok (.aload_n 0, 1) := by decide +kernel
theorem dX7_takeApart_303 : decode cX7_takeApart 303 = .ok (.getfield 64, 3) := by decide +kernel
theorem dX7_takeApart_306 : decode cX7_takeApart 306 = .ok (.iload 9, 2) := by decide +kernel
theorem dX7_takeApart_308 : decode cX7_takeApart 308 = .ok (.iaload, 1) := by decide +kernel
theorem dX7_takeApart_309 : decode cX7_takeApart 309 = .ok (.i2l, 1) := by decide +kernel
theorem dX7_takeApart_310 : decode cX7_takeApart 310 = .ok (.ladd, 1) := by decide +kernel
theorem dX7_takeApart_311 : decode cX7_takeApart 311 = .ok (.lstore 7, 2) := by decide +kernel
theorem dX7_takeApart_313 : decode cX7_takeApart 313 = .ok (.iinc 9 1, 3) := by decide +kernel
theorem dX7_takeApart_316 : decode cX7_takeApart 316 = .ok (.goto (-42), 3) := by decide +kernel
theorem dX7_takeApart_319 : decode cX7_takeApart 319 = .ok (.aload_n 0, 1) := by decide +kernel
theorem dX7_takeApart_320 : decode cX7_takeApart 320 = .ok (.getfield 70, 3) := by decide +kernel
theorem dX7_takeApart_323 : decode cX7_takeApart 323 = .ok (.iload_n 3, 1) := by decide +kernel
theorem dX7_takeApart_324 : decode cX7_takeApart 324 = .ok (.iload 5, 2) := by decide +kernel
theorem dX7_takeApart_326 : decode cX7_takeApart 326 = .ok (.iastore, 1) := by decide +kernel
theorem dX7_takeApart_327 : decode cX7_takeApart 327 = .ok (.aload_n 0, 1) := by decide +kernel
theorem dX7_takeApart_328 : decode cX7_takeApart 328 = .ok (.getfield 73, 3) := by decide +kernel
theorem dX7_takeApart_331 : decode cX7_takeApart 331 = .ok (.iload_n 3, 1) := by decide +kernel
theorem dX7_takeApart_332 : decode cX7_takeApart 332 = .ok (.iload 6, 2) := by decide +kernel
theorem dX7_takeApart_334 : decode cX7_takeApart 334 = .ok (.iload_n 2, 1) := by decide +kernel
theorem dX7_takeApart_335 : decode cX7_takeApart 335 = .ok (.isub, 1) := by decide +kernel
theorem dX7_takeApart_336 : decode cX7_takeApart 336 = .ok (.iastore, 1) := by decide +kernel
theorem dX7_takeApart_337 : decode cX7_takeApart 337 = .ok (.aload_n 0, 1) := by decide +kernel
theorem dX7_takeApart_338 : decode cX7_takeApart 338 = .ok (.getfield 76, 3) := by decide +kernel
theorem dX7_takeApart_341 : decode cX7_takeApart 341 = .ok (.iload_n 3, 1) := by decide +kernel
theorem dX7_takeApart_342 : decode cX7_takeApart 342 = .ok (.lload 7, 2) := by decide +kernel
theorem dX7_takeApart_344 : decode cX7_takeApart 344 = .ok (.lastore, 1) := by decide +kernel
theorem dX7_takeApart_345 : decode cX7_takeApart 345 = .ok (.iinc 3 1, 3) := by decide +kernel
theorem dX7_takeApart_348 : decode cX7_takeApart 348 = .ok (.iload 6, 2) := by decide +kernel
theorem dX7_takeApart_350 : decode cX7_takeApart 350 = .ok (.istore_n 2, 1) := by decide +kernel
theorem dX7_takeApart_351 : decode cX7_takeApart 351 = .ok (.aload_n 0, 1) := by decide +kernel
theorem dX7_takeApart_352 : decode cX7_takeApart 352 = .ok (.getfield 17, 3) := by decide +kernel
theorem dX7_takeApart_355 : decode cX7_takeApart 355 = .ok (.iload 5, 2) := by decide +kernel
theorem dX7_takeApart_357 : decode cX7_takeApart 357 = .ok (.baload, 1) := by decide +kernel
theorem dX7_takeApart_358 : decode cX7_takeApart 358 = .ok (.ifCond .ne 19, 3) := by decide +kernel
theorem dX7_takeApart_361 : decode cX7_takeApart 361 = .ok (.iload_n 2, 1) := by decide +kernel
theorem dX7_takeApart_362 : decode cX7_takeApart 362 = .ok (.iload_n 1, 1) := by decide +kernel
theorem dX7_takeApart_363 : decode cX7_takeApart 363 = .ok (.if_icmp .ge 14, 3) := by decide +kernel
theorem dX7_takeApart_366 : decode cX7_takeApart 366 = .ok (.iinc 2 1, 3) := by decide +kernel
theorem dX7_takeApart_369 : decode cX7_takeApart 369 = .ok (.iload_n 2, 1) := by decide +kernel
theorem dX7_takeApart_370 : decode cX7_takeApart 370 = .ok (.iload_n 1, 1) := by decide +kernel
theorem dX7_takeApart_371 : decode cX7_takeApart 371 = .ok (.if_icmp .ne 6, 3) := by decide +kernel
theorem dX7_takeApart_374 : decode cX7_takeApart 374 = .ok (.bipush (-6), 2) := by decide +kernel
theorem dX7_takeApart_376 : decode cX7_takeApart 376 = .ok (.ireturn, 1) := by decide +kernel
theorem dX7_takeApart_377 : decode cX7_takeApart 377 = .ok (.goto (-321), 3) := by decide +kernel
theorem dX7_takeApart_380 : decode cX7_takeApart 380 = .ok (.iconst 0, 1) := by decide +kernel
theorem dX7_takeApart_381 : decode cX7_takeApart 381 = .ok (.istore 4, 2) := by decide +kernel
theorem dX7_takeApart_383 : decode cX7_takeApart 383 = .ok (.iload 4, 2) := by decide +kernel
theorem dX7_takeApart_385 : decode cX7_takeApart 385 = .ok (.iload_n 3, 1) := by decide +kernel
theorem dX7_takeApart_386 : decode cX7_takeApart 386 = .ok (.if_icmp .ge 88, 3) := by decide +kernel
theorem dX7_takeApart_389 : decode cX7_takeApart 389 = .ok (.aload_n 0, 1) := by decide +kernel
theorem dX7_takeApart_390 : decode cX7_takeApart 390 = .ok (.getfield 24, 3) := by decide +kernel
theorem dX7_takeApart_393 : decode cX7_takeApart 393 = .ok (.aload_n 0, 1) := by decide +kernel
theorem dX7_takeApart_394 : decode cX7_takeApart 394 = .ok (.getfield 70, 3) := by decide +kernel
theorem dX7_takeApart_397 : decode cX7_takeApart 397 = .ok (.iload 4, 2) := by decide +kernel
theorem dX7_takeApart_399 : decode cX7_takeApart 399 = .ok (.iaload, 1) := by decide +kernel
theorem dX7_takeApart_400 : decode cX7_takeApart 400 = .ok (.iaload, 1) := by decide +kernel
theorem dX7_takeApart_401 : decode cX7_takeApart 401 = .ok (.ifCond .ne 7, 3) := by decide +kernel
theorem dX7_takeApart_404 : decode cX7_takeApart 404 = .ok (.iconst 1, 1) := by decide +kernel
theorem dX7_takeApart_405 : decode cX7_takeApart 405 = .ok (.goto 4, 3) := by decide +kernel
theorem dX7_takeApart_408 : decode cX7_takeApart 408 = .ok (.iconst 0, 1) := by decide +kernel
theorem dX7_takeApart_409 : decode cX7_takeApart 409 = .ok (.istore 5, 2) := by decide +kernel
theorem dX7_takeApart_411 : decode cX7_takeApart 411 = .ok (.iconst 0, 1) := by decide +kernel
theorem dX7_takeApart_412 : decode cX7_takeApart 412 = .ok (.istore 6, 2) := by decide +kernel
theorem dX7_takeApart_414 : decode cX7_takeApart 414 = .ok (.iload 6, 2) := by decide +kernel
theorem dX7_takeApart_416 : decode cX7_takeApart 416 = .ok (.iload_n 3, 1) := by decide +kernel
theorem dX7_takeApart_417 : decode cX7_takeApart 417 = .ok (.if_icmp .ge 43, 3) := by decide +kernel
theorem dX7_takeApart_420 : decode cX7_takeApart 420 = .ok (.iload 5, 2) := by decide +kernel
theorem dX7_takeApart_422 : decode cX7_takeApart 422 = .ok (.ifCond .ne 25, 3) := by decide +kernel
theorem dX7_takeApart_425 : decode cX7_takeApart 425 = .ok (.aload_n 0, 1) := by decide +kernel
theorem dX7_takeApart_426 : decode cX7_takeApart 426 = .ok (.getfield 70, 3) := by decide +kernel
theorem dX7_takeApart_429 : decode cX7_takeApart 429 = .ok (.iload 6, 2) := by decide +kernel
theorem dX7_takeApart_431 : decode cX7_takeApart 431 = .ok (.iaload, 1) := by decide +kernel
theorem dX7_takeApart_432 : decode cX7_takeApart 432 = .ok (.aload_n 0, 1) := by decide +kernel
theorem dX7_takeApart_433 : decode cX7_takeApart 433 = .ok (.getfield 24, 3) := by decide +kernel
theorem dX7_takeApart_436 : decode cX7_takeApart 436 = .ok (.aload_n 0, 1) := by decide +kernel
theorem dX7_takeApart_437 : decode cX7_takeApart 437 = .ok (.getfield 70, 3) := by decide +kernel
theorem dX7_takeApart_440 : decode cX7_takeApart 440 = .ok (.iload 4, 2) := by decide +kernel
theorem dX7_takeApart_442 : decode cX7_takeApart 442 = .ok (.iaload, 1) := by decide +kernel
theorem dX7_takeApart_443 : decode cX7_takeApart 443 = .ok (.iaload, 1) := by decide +kernel
theorem dX7_takeApart_444 : decode cX7_takeApart 444 = .ok (.if_icmp .ne 7, 3) := by decide +kernel
theorem dX7_takeApart_447 : decode cX7_takeApart 447 = .ok (.iconst 1, 1) := by decide +kernel
theorem dX7_takeApart_448 : decode cX7_takeApart 448 = .ok (.goto 4, 3) := by decide +kernel
theorem dX7_takeApart_451 : decode cX7_takeApart 451 = .ok (.iconst 0, 1) := by decide +kernel
theorem dX7_takeApart_452 : decode cX7_takeApart 452 = .ok (.istore 5, 2) := by decide +kernel
theorem dX7_takeApart_454 : decode cX7_takeApart 454 = .ok (.iinc 6 1, 3) := by decide +kernel
theorem dX7_takeApart_457 : decode cX7_takeApart 457 = .ok (.goto (-43), 3) := by decide +kernel
theorem dX7_takeApart_460 : decode cX7_takeApart 460 = .ok (.iload 5, 2) := by decide +kernel
theorem dX7_takeApart_462 : decode cX7_takeApart 462 = .ok (.ifCond .ne 6, 3) := by decide +kernel
theorem dX7_takeApart_465 : decode cX7_takeApart 465 = .ok (.bipush (-7), 2) := by decide +kernel
theorem dX7_takeApart_467 : decode cX7_takeApart 467 = .ok (.ireturn, 1) := by decide +kernel
theorem dX7_takeApart_468 : decode cX7_takeApart 468 = .ok (.iinc 4 1, 3) := by decide +kernel
theorem dX7_takeApart_471 : decode cX7_takeApart 471 = .ok (.goto (-88), 3) := by decide +kernel
theorem dX7_takeApart_474 : decode cX7_takeApart 474 = .ok (.aload_n 0, 1) := by decide +kernel
theorem dX7_takeApart_475 : decode cX7_takeApart 475 = .ok (.iload_n 3, 1) := by decide +kernel
theorem dX7_takeApart_476 : decode cX7_takeApart 476 = .ok (.putfield 67, 3) := by decide +kernel
theorem dX7_takeApart_479 : decode cX7_takeApart 479 = .ok (.iload_n 3, 1) := by decide +kernel
theorem dX7_takeApart_480 : decode cX7_takeApart 480 = .ok (.ireturn, 1) := by decide +kernel
theorem dX7_thrown_0 : decode cX7_thrown 0 = .ok (.aload_n 0, 1) := by decide +kernel
theorem dX7_thrown_1 : decode cX7_thrown 1 = .ok (.getfield 7, 3) := by decide +kernel
theorem dX7_thrown_4 : decode cX7_thrown 4 = .ok (.ireturn, 1) := by decide +kernel
theorem dX7_prefix_0 : decode cX7_prefix 0 = .ok (.aload_n 0, 1) := by decide +kernel
theorem dX7_prefix_1 : decode cX7_prefix 1 = .ok (.iload_n 1, 1) := by decide +kernel
theorem dX7_prefix_2 : decode cX7_prefix 2 = .ok (.bipush 10, 2) := by decide +kernel
theorem dX7_prefix_4 : decode cX7_prefix 4 = .ok (.if_icmp .lt 33, 3) := by decide +kernel
theorem dX7_prefix_7 : decode cX7_prefix 7 = .ok (.iload_n 1, 1) := by decide +kernel
theorem dX7_prefix_8 : decode cX7_prefix 8 = .ok (.bipush 99, 2) := by decide +kernel
theorem dX7_prefix_10 : decode cX7_prefix 10 = .ok (.if_icmp .gt 27, 3) := by decide +kernel
theorem dX7_prefix_13 : decode cX7_prefix 13 = .ok (.iload_n 2, 1) := by decide +kernel
theorem dX7_prefix_14 : decode cX7_prefix 14 = .ok (.iconst 1, 1) := by decide +kernel
theorem dX7_prefix_15 : decode cX7_prefix 15 = .ok (.if_icmp .lt 22, 3) := by decide +kernel
theorem dX7_prefix_18 : decode cX7_prefix 18 = .ok (.iload_n 2, 1) := by decide +kernel
theorem dX7_prefix_19 : decode cX7_prefix 19 = .ok (.bipush 12, 2) := by decide +kernel
theorem dX7_prefix_21 : decode cX7_prefix 21 = .ok (.if_icmp .gt 16, 3) := by decide +kernel
theorem dX7_prefix_24 : decode cX7_prefix 24 = .ok (.iload 4, 2) := by decide +kernel
theorem dX7_prefix_26 : decode cX7_prefix 26 = .ok (.iconst (-1), 1) := by decide +kernel
theorem dX7_prefix_27 : decode cX7_prefix 27 = .ok (.if_icmp .lt 10, 3) := by decide +kernel
theorem dX7_prefix_30 : decode cX7_prefix 30 = .ok (.iload 4, 2) := by decide +kernel
theorem dX7_prefix_32 : decode cX7_prefix 32 = .ok (.bipush 7, 2) := by decide +kernel
theorem dX7_prefix_34 : decode cX7_prefix 34 = .ok (.if_icmp .le 7, 3) := by decide +kernel
theorem dX7_prefix_37 : decode cX7_prefix 37 = .ok (.iconst 1, 1) := by decide +kernel
theorem dX7_prefix_38 : decode cX7_prefix 38 = .ok (.goto 4, 3) := by decide +kernel
theorem dX7_prefix_41 : decode cX7_prefix 41 = .ok (.iconst 0, 1) := by decide +kernel
theorem dX7_prefix_42 : decode cX7_prefix 42 = .ok (.putfield 7, 3) := by decide +kernel
theorem dX7_prefix_45 : decode cX7_prefix 45 = .ok (.aload_n 0, 1) := by decide +kernel
theorem dX7_prefix_46 : decode cX7_prefix 46 = .ok (.getfield 7, 3) := by decide +kernel
theorem dX7_prefix_49 : decode cX7_prefix 49 = .ok (.ifCond .ne 26, 3) := by decide +kernel
theorem dX7_prefix_52 : decode cX7_prefix 52 = .ok (.aload_n 0, 1) := by decide +kernel
theorem dX7_prefix_53 : decode cX7_prefix 53 = .ok (.getfield 13, 3) := by decide +kernel
theorem dX7_prefix_56 : decode cX7_prefix 56 = .ok (.iload_n 1, 1) := by decide +kernel
theorem dX7_prefix_57 : decode cX7_prefix 57 = .ok (.iaload, 1) := by decide +kernel
theorem dX7_prefix_58 : decode cX7_prefix 58 = .ok (.ifCond .ne 17, 3) := by decide +kernel
theorem dX7_prefix_61 : decode cX7_prefix 61 = .ok (.aload_n 0, 1) := by decide +kernel
theorem dX7_prefix_62 : decode cX7_prefix 62 = .ok (.invokevirtual 134, 3) := by decide +kernel
theorem dX7_prefix_65 : decode cX7_prefix 65 = .ok (.bipush 16, 2) := by decide +kernel
theorem dX7_prefix_67 : decode cX7_prefix 67 = .ok (.if_icmp .ne 8, 3) := by decide +kernel
theorem dX7_prefix_70 : decode cX7_prefix 70 = .ok (.aload_n 0, 1) := by decide +kernel
theorem dX7_prefix_71 : decode cX7_prefix 71 = .ok (.iconst 2, 1) := by decide +kernel
theorem dX7_prefix_72 : decode cX7_prefix 72 = .ok (.putfield 7, 3) := by decide +kernel
theorem dX7_prefix_75 : decode cX7_prefix 75 = .ok (.aload_n 0, 1) := by decide +kernel
theorem dX7_prefix_76 : decode cX7_prefix 76 = .ok (.getfield 7, 3) := by decide +kernel
theorem dX7_prefix_79 : decode cX7_prefix 79 = .ok (.ifCond .eq 5, 3) := by decide +kernel
theorem dX7_prefix_82 : decode cX7_prefix 82 = .ok (.iconst 0, 1) := by decide +kernel
theorem dX7_prefix_83 : decode cX7_prefix 83 = .ok (.ireturn, 1) := by decide +kernel
theorem dX7_prefix_84 : decode cX7_prefix 84 = .ok (.aload_n 0, 1) := by decide +kernel
theorem dX7_prefix_85 : decode cX7_prefix 85 = .ok (.getfield 13, 3) := by decide +kernel
theorem dX7_prefix_88 : decode cX7_prefix 88 = .ok (.iload_n 1, 1) := by decide +kernel
theorem dX7_prefix_89 : decode cX7_prefix 89 = .ok (.iload_n 2, 1) := by decide +kernel
theorem dX7_prefix_90 : decode cX7_prefix 90 = .ok (.iastore, 1) := by decide +kernel
theorem dX7_prefix_91 : decode cX7_prefix 91 = .ok (.aload_n 0, 1) := by decide +kernel
theorem dX7_prefix_92 : decode cX7_prefix 92 = .ok (.getfield 17, 3) := by decide +kernel
theorem dX7_prefix_95 : decode cX7_prefix 95 = .ok (.iload_n 1, 1) := by decide +kernel
theorem dX7_prefix_96 : decode cX7_prefix 96 = .ok (.iload_n 3, 1) := by decide +kernel
theorem dX7_prefix_97 : decode cX7_prefix 97 = .ok (.bastore, 1) := by decide +kernel
theorem dX7_prefix_98 : decode cX7_prefix 98 = .ok (.aload_n 0, 1) := by decide +kernel
theorem dX7_prefix_99 : decode cX7_prefix 99 = .ok (.getfield 21, 3) := by decide +kernel
theorem dX7_prefix_102 : decode cX7_prefix 102 = .ok (.iload_n 1, 1) := by decide +kernel
theorem dX7_prefix_103 : decode cX7_prefix 103 = .ok (.iload 4, 2) := by decide +kernel
theorem dX7_prefix_105 : decode cX7_prefix 105 = .ok (.iastore, 1) := by decide +kernel
theorem dX7_prefix_106 : decode cX7_prefix 106 = .ok (.aload_n 0, 1) := by decide +kernel
theorem dX7_prefix_107 : decode cX7_prefix 107 = .ok (.getfield 24, 3) := by decide +kernel
theorem dX7_prefix_110 : decode cX7_prefix 110 = .ok (.iload_n 1, 1) := by decide +kernel
theorem dX7_prefix_111 : decode cX7_prefix 111 = .ok (.iconst 0, 1) := by decide +kernel
theorem dX7_prefix_112 : decode cX7_prefix 112 = .ok (.iastore, 1) := by decide +kernel
theorem dX7_prefix_113 : decode cX7_prefix 113 = .ok (.aload_n 0, 1) := by decide +kernel
theorem dX7_prefix_114 : decode cX7_prefix 114 = .ok (.invokevirtual 134, 3) := by decide +kernel
theorem dX7_prefix_117 : decode cX7_prefix 117 = .ok (.ireturn, 1) := by decide +kernel
theorem dX7_needs_0 : decode cX7_needs 0 = .ok (.aload_n 0, 1) := by decide +kernel
theorem dX7_needs_1 : decode cX7_needs 1 = .ok (.aload_n 0, 1) := by decide +kernel
theorem dX7_needs_2 : decode cX7_needs 2 = .ok (.iload_n 1, 1) := by decide +kernel
theorem dX7_needs_3 : decode cX7_needs 3 = .ok (.invokevirtual 128, 3) := by decide +kernel
theorem dX7_needs_6 : decode cX7_needs 6 = .ok (.ifCond .ne 7, 3) := by decide +kernel
theorem dX7_needs_9 : decode cX7_needs 9 = .ok (.iconst 1, 1) := by decide +kernel
theorem dX7_needs_10 : decode cX7_needs 10 = .ok (.goto 29, 3) := by decide +kernel
theorem dX7_needs_13 : decode cX7_needs 13 = .ok (.iload_n 2, 1) := by decide +kernel
theorem dX7_needs_14 : decode cX7_needs 14 = .ok (.iload_n 1, 1) := by decide +kernel
theorem dX7_needs_15 : decode cX7_needs 15 = .ok (.if_icmp .eq 19, 3) := by decide +kernel
theorem dX7_needs_18 : decode cX7_needs 18 = .ok (.iload_n 2, 1) := by decide +kernel
theorem dX7_needs_19 : decode cX7_needs 19 = .ok (.ifCond .eq 19, 3) := by decide +kernel
theorem dX7_needs_22 : decode cX7_needs 22 = .ok (.iload_n 2, 1) := by decide +kernel
theorem dX7_needs_23 : decode cX7_needs 23 = .ok (.bipush 10, 2) := by decide +kernel
theorem dX7_needs_25 : decode cX7_needs 25 = .ok (.if_icmp .lt 9, 3) := by decide +kernel
theorem dX7_needs_28 : decode cX7_needs 28 = .ok (.iload_n 2, 1) := by decide +kernel
theorem dX7_needs_29 : decode cX7_needs 29 = .ok (.bipush 99, 2) := by decide +kernel
theorem dX7_needs_31 : decode cX7_needs 31 = .ok (.if_icmp .le 7, 3) := by decide +kernel
theorem dX7_needs_34 : decode cX7_needs 34 = .ok (.iconst 2, 1) := by decide +kernel
theorem dX7_needs_35 : decode cX7_needs 35 = .ok (.goto 4, 3) := by decide +kernel
theorem dX7_needs_38 : decode cX7_needs 38 = .ok (.iconst 0, 1) := by decide +kernel
theorem dX7_needs_39 : decode cX7_needs 39 = .ok (.putfield 7, 3) := by decide +kernel
theorem dX7_needs_42 : decode cX7_needs 42 = .ok (.aload_n 0, 1) := by decide +kernel
theorem dX7_needs_43 : decode cX7_needs 43 = .ok (.getfield 7, 3) := by decide +kernel
theorem dX7_needs_46 : decode cX7_needs 46 = .ok (.ifCond .ne 10, 3) := by decide +kernel
theorem dX7_needs_49 : decode cX7_needs 49 = .ok (.aload_n 0, 1) := by decide +kernel
theorem dX7_needs_50 : decode cX7_needs 50 = .ok (.getfield 24, 3) := by decide +kernel
theorem dX7_needs_53 : decode cX7_needs 53 = .ok (.iload_n 1, 1) := by decide +kernel
theorem dX7_needs_54 : decode cX7_needs 54 = .ok (.iload_n 2, 1) := by decide +kernel
theorem dX7_needs_55 : decode cX7_needs 55 = .ok (.iastore, 1) := by decide +kernel
theorem dX7_needs_56 : decode cX7_needs 56 = .ok (.return_, 1) := by decide +kernel
theorem dX7_begin_0 : decode cX7_begin 0 = .ok (.aload_n 0, 1) := by decide +kernel
theorem dX7_begin_1 : decode cX7_begin 1 = .ok (.iconst 0, 1) := by decide +kernel
theorem dX7_begin_2 : decode cX7_begin 2 = .ok (.putfield 7, 3) := by decide +kernel
theorem dX7_begin_5 : decode cX7_begin 5 = .ok (.aload_n 0, 1) := by decide +kernel
theorem dX7_begin_6 : decode cX7_begin 6 = .ok (.iconst 0, 1) := by decide +kernel
theorem dX7_begin_7 : decode cX7_begin 7 = .ok (.putfield 27, 3) := by decide +kernel
theorem dX7_begin_10 : decode cX7_begin 10 = .ok (.return_, 1) := by decide +kernel
theorem dX7_field_0 : decode cX7_field 0 = .ok (.aload_n 0, 1) := by decide +kernel
theorem dX7_field_1 : decode cX7_field 1 = .ok (.aload_n 0, 1) := by decide +kernel
theorem dX7_field_2 : decode cX7_field 2 = .ok (.iload_n 1, 1) := by decide +kernel
theorem dX7_field_3 : decode cX7_field 3 = .ok (.invokevirtual 128, 3) := by decide +kernel
theorem dX7_field_6 : decode cX7_field 6 = .ok (.ifCond .ne 7, 3) := by decide +kernel
theorem dX7_field_9 : decode cX7_field 9 = .ok (.iconst 1, 1) := by decide +kernel
theorem dX7_field_10 : decode cX7_field 10 = .ok (.goto 27, 3) := by decide +kernel
theorem dX7_field_13 : decode cX7_field 13 = .ok (.iload 4, 2) := by decide +kernel
theorem dX7_field_15 : decode cX7_field 15 = .ok (.iconst 1, 1) := by decide +kernel
theorem dX7_field_16 : decode cX7_field 16 = .ok (.if_icmp .lt 16, 3) := by decide +kernel
theorem dX7_field_19 : decode cX7_field 19 = .ok (.iload 4, 2) := by decide +kernel
theorem dX7_field_21 : decode cX7_field 21 = .ok (.bipush 12, 2) := by decide +kernel
theorem dX7_field_23 : decode cX7_field 23 = .ok (.if_icmp .gt 9, 3) := by decide +kernel
theorem dX7_field_26 : decode cX7_field 26 = .ok (.lload_n 2, 1) := by decide +kernel
theorem dX7_field_27 : decode cX7_field 27 = .ok (.lconst 0, 1) := by decide +kernel
theorem dX7_field_28 : decode cX7_field 28 = .ok (.lcmp, 1) := by decide +kernel
theorem dX7_field_29 : decode cX7_field 29 = .ok (.ifCond .ge 7, 3) := by decide +kernel
theorem dX7_field_32 : decode cX7_field 32 = .ok (.iconst 2, 1) := by decide +kernel
theorem dX7_field_33 : decode cX7_field 33 = .ok (.goto 4, 3) := by decide +kernel
theorem dX7_field_36 : decode cX7_field 36 = .ok (.iconst 0, 1) := by decide +kernel
theorem dX7_field_37 : decode cX7_field 37 = .ok (.putfield 7, 3) := by decide +kernel
theorem dX7_field_40 : decode cX7_field 40 = .ok (.aload_n 0, 1) := by decide +kernel
theorem dX7_field_41 : decode cX7_field 41 = .ok (.getfield 7, 3) := by decide +kernel
theorem dX7_field_44 : decode cX7_field 44 = .ok (.ifCond .eq 5, 3) := by decide +kernel
theorem dX7_field_47 : decode cX7_field 47 = .ok (.iconst 0, 1) := by decide +kernel
theorem dX7_field_48 : decode cX7_field 48 = .ok (.ireturn, 1) := by decide +kernel
theorem dX7_field_49 : decode cX7_field 49 = .ok (.lconst 1, 1) := by decide +kernel
theorem dX7_field_50 : decode cX7_field 50 = .ok (.lstore 5, 2) := by decide +kernel
theorem dX7_field_52 : decode cX7_field 52 = .ok (.iconst 0, 1) := by decide +kernel
theorem dX7_field_53 : decode cX7_field 53 = .ok (.istore 7, 2) := by decide +kernel
theorem dX7_field_55 : decode cX7_field 55 = .ok (.iload 7, 2) := by decide +kernel
theorem dX7_field_57 : decode cX7_field 57 = .ok (.iload 4, 2) := by decide +kernel
theorem dX7_field_59 : decode cX7_field 59 = .ok (.if_icmp .ge 17, 3) := by decide +kernel
theorem dX7_field_62 : decode cX7_field 62 = .ok (.ldc2_w 132, 3) := by decide +kernel
theorem dX7_field_65 : decode cX7_field 65 = .ok (.lload 5, 2) := by decide +kernel
theorem dX7_field_67 : decode cX7_field 67 = .ok (.lmul, 1) := by decide +kernel
theorem dX7_field_68 : decode cX7_field 68 = .ok (.lstore 5, 2) := by decide +kernel
theorem dX7_field_70 : decode cX7_field 70 = .ok (.iinc 7 1, 3) := by decide +kernel
theorem dX7_field_73 : decode cX7_field 73 = .ok (.goto (-18), 3) := by decide +kernel
theorem dX7_field_76 : decode cX7_field 76 = .ok (.aload_n 0, 1) := by decide +kernel
theorem dX7_field_77 : decode cX7_field 77 = .ok (.getfield 27, 3) := by decide +kernel
theorem dX7_field_80 : decode cX7_field 80 = .ok (.bipush 6, 2) := by decide +kernel
theorem dX7_field_82 : decode cX7_field 82 = .ok (.if_icmp .ne 7, 3) := by decide +kernel
theorem dX7_field_85 : decode cX7_field 85 = .ok (.iconst 1, 1) := by decide +kernel
theorem dX7_field_86 : decode cX7_field 86 = .ok (.goto 4, 3) := by decide +kernel
theorem dX7_field_89 : decode cX7_field 89 = .ok (.iconst 0, 1) := by decide +kernel
theorem dX7_field_90 : decode cX7_field 90 = .ok (.istore 7, 2) := by decide +kernel
theorem dX7_field_92 : decode cX7_field 92 = .ok (.iconst 0, 1) := by decide +kernel
theorem dX7_field_93 : decode cX7_field 93 = .ok (.istore 8, 2) := by decide +kernel
theorem dX7_field_95 : decode cX7_field 95 = .ok (.iload 8, 2) := by decide +kernel
theorem dX7_field_97 : decode cX7_field 97 = .ok (.aload_n 0, 1) := by decide +kernel
theorem dX7_field_98 : decode cX7_field 98 = .ok (.getfield 27, 3) := by decide +kernel
theorem dX7_field_101 : decode cX7_field 101 = .ok (.if_icmp .ge 32, 3) := by decide +kernel
theorem dX7_field_104 : decode cX7_field 104 = .ok (.iload 7, 2) := by decide +kernel
theorem dX7_field_106 : decode cX7_field 106 = .ok (.ifCond .ne 14, 3) := by decide +kernel
theorem dX7_field_109 : decode cX7_field 109 = .ok (.aload_n 0, 1) := by decide +kernel
theorem dX7_field_110 : decode cX7_field 110 = .ok (.getfield 30, 3) := by decide +kernel
theorem dX7_field_113 : decode cX7_field 113 = .ok (.iload 8, 2) := by decide +kernel
theorem dX7_field_115 : decode cX7_field 115 = .ok (.iaload, 1) := by decide +kernel
theorem dX7_field_116 : decode cX7_field 116 = .ok (.iload_n 1, 1) := by decide +kernel
theorem dX7_field_117 : decode cX7_field 117 = .ok (.if_icmp .ne 7, 3) := by decide +kernel
theorem dX7_field_120 : decode cX7_field 120 = .ok (.iconst 1, 1) := by decide +kernel
theorem dX7_field_121 : decode cX7_field 121 = .ok (.goto 4, 3) := by decide +kernel
theorem dX7_field_124 : decode cX7_field 124 = .ok (.iconst 0, 1) := by decide +kernel
theorem dX7_field_125 : decode cX7_field 125 = .ok (.istore 7, 2) := by decide +kernel
theorem dX7_field_127 : decode cX7_field 127 = .ok (.iinc 8 1, 3) := by decide +kernel
theorem dX7_field_130 : decode cX7_field 130 = .ok (.goto (-35), 3) := by decide +kernel
theorem dX7_field_133 : decode cX7_field 133 = .ok (.aload_n 0, 1) := by decide +kernel
theorem dX7_field_134 : decode cX7_field 134 = .ok (.lload_n 2, 1) := by decide +kernel
theorem dX7_field_135 : decode cX7_field 135 = .ok (.lload 5, 2) := by decide +kernel
theorem dX7_field_137 : decode cX7_field 137 = .ok (.lcmp, 1) := by decide +kernel
theorem dX7_field_138 : decode cX7_field 138 = .ok (.ifCond .ge 34, 3) := by decide +kernel
theorem dX7_field_141 : decode cX7_field 141 = .ok (.iload 4, 2) := by decide +kernel
theorem dX7_field_143 : decode cX7_field 143 = .ok (.aload_n 0, 1) := by decide +kernel
theorem dX7_field_144 : decode cX7_field 144 = .ok (.getfield 13, 3) := by decide +kernel
theorem dX7_field_147 : decode cX7_field 147 = .ok (.iload_n 1, 1) := by decide +kernel
theorem dX7_field_148 : decode cX7_field 148 = .ok (.iaload, 1) := by decide +kernel
theorem dX7_field_149 : decode cX7_field 149 = .ok (.if_icmp .gt 23, 3) := by decide +kernel
theorem dX7_field_152 : decode cX7_field 152 = .ok (.aload_n 0, 1) := by decide +kernel
theorem dX7_field_153 : decode cX7_field 153 = .ok (.getfield 17, 3) := by decide +kernel
theorem dX7_field_156 : decode cX7_field 156 = .ok (.iload_n 1, 1) := by decide +kernel
theorem dX7_field_157 : decode cX7_field 157 = .ok (.baload, 1) := by decide +kernel
theorem dX7_field_158 : decode cX7_field 158 = .ok (.ifCond .eq 18, 3) := by decide +kernel
theorem dX7_field_161 : decode cX7_field 161 = .ok (.iload 4, 2) := by decide +kernel
theorem dX7_field_163 : decode cX7_field 163 = .ok (.aload_n 0, 1) := by decide +kernel
theorem dX7_field_164 : decode cX7_field 164 = .ok (.getfield 13, 3) := by decide +kernel
theorem dX7_field_167 : decode cX7_field 167 = .ok (.iload_n 1, 1) := by decide +kernel
theorem dX7_field_168 : decode cX7_field 168 = .ok (.iaload, 1) := by decide +kernel
theorem dX7_field_169 : decode cX7_field 169 = .ok (.if_icmp .eq 7, 3) := by decide +kernel
theorem dX7_field_172 : decode cX7_field 172 = .ok (.iconst 2, 1) := by decide +kernel
theorem dX7_field_173 : decode cX7_field 173 = .ok (.goto 13, 3) := by decide +kernel
theorem dX7_field_176 : decode cX7_field 176 = .ok (.iload 7, 2) := by decide +kernel
theorem dX7_field_178 : decode cX7_field 178 = .ok (.ifCond .eq 7, 3) := by decide +kernel
theorem dX7_field_181 : decode cX7_field 181 = .ok (.iconst 3, 1) := by decide +kernel
theorem dX7_field_182 : decode cX7_field 182 = .ok (.goto 4, 3) := by decide +kernel
theorem dX7_field_185 : decode cX7_field 185 = .ok (.iconst 0, 1) := by decide +kernel
theorem dX7_field_186 : decode cX7_field 186 = .ok (.putfield 7, 3) := by decide +kernel
theorem dX7_field_189 : decode cX7_field 189 = .ok (.aload_n 0, 1) := by decide +kernel
theorem dX7_field_190 : decode cX7_field 190 = .ok (.getfield 7, 3) := by decide +kernel
theorem dX7_field_193 : decode cX7_field 193 = .ok (.ifCond .eq 5, 3) := by decide +kernel
theorem dX7_field_196 : decode cX7_field 196 = .ok (.iconst 0, 1) := by decide +kernel
theorem dX7_field_197 : decode cX7_field 197 = .ok (.ireturn, 1) := by decide +kernel
theorem dX7_field_198 : decode cX7_field 198 = .ok (.aload_n 0, 1) := by decide +kernel
theorem dX7_field_199 : decode cX7_field 199 = .ok (.getfield 30, 3) := by decide +kernel
theorem dX7_field_202 : decode cX7_field 202 = .ok (.aload_n 0, 1) := by decide +kernel
theorem dX7_field_203 : decode cX7_field 203 = .ok (.getfield 27, 3) := by decide +kernel
theorem dX7_field_206 : decode cX7_field 206 = .ok (.iload_n 1, 1) := by decide +kernel
theorem dX7_field_207 : decode cX7_field 207 = .ok (.iastore, 1) := by decide +kernel
theorem dX7_field_208 : decode cX7_field 208 = .ok (.aload_n 0, 1) := by decide +kernel
theorem dX7_field_209 : decode cX7_field 209 = .ok (.getfield 33, 3) := by decide +kernel
theorem dX7_field_212 : decode cX7_field 212 = .ok (.aload_n 0, 1) := by decide +kernel
theorem dX7_field_213 : decode cX7_field 213 = .ok (.getfield 27, 3) := by decide +kernel
theorem dX7_field_216 : decode cX7_field 216 = .ok (.iload 4, 2) := by decide +kernel
theorem dX7_field_218 : decode cX7_field 218 = .ok (.iastore, 1) := by decide +kernel
theorem dX7_field_219 : decode cX7_field 219 = .ok (.aload_n 0, 1) := by decide +kernel
theorem dX7_field_220 : decode cX7_field 220 = .ok (.getfield 36, 3) := by decide +kernel
theorem dX7_field_223 : decode cX7_field 223 = .ok (.aload_n 0, 1) := by decide +kernel
theorem dX7_field_224 : decode cX7_field 224 = .ok (.getfield 27, 3) := by decide +kernel
theorem dX7_field_227 : decode cX7_field 227 = .ok (.lload_n 2, 1) := by decide +kernel
theorem dX7_field_228 : decode cX7_field 228 = .ok (.lastore, 1) := by decide +kernel
theorem dX7_field_229 : decode cX7_field 229 = .ok (.aload_n 0, 1) := by decide +kernel
theorem dX7_field_230 : decode cX7_field 230 = .ok (.dup, 1) := by decide +kernel
theorem dX7_field_231 : decode cX7_field 231 = .ok (.getfield 27, 3) := by decide +kernel
theorem dX7_field_234 : decode cX7_field 234 = .ok (.iconst 1, 1) := by decide +kernel
theorem dX7_field_235 : decode cX7_field 235 = .ok (.iadd, 1) := by decide +kernel
theorem dX7_field_236 : decode cX7_field 236 = .ok (.putfield 27, 3) := by decide +kernel
theorem dX7_field_239 : decode cX7_field 239 = .ok (.aload_n 0, 1) := by decide +kernel
theorem dX7_field_240 : decode cX7_field 240 = .ok (.getfield 27, 3) := by decide +kernel
theorem dX7_field_243 : decode cX7_field 243 = .ok (.ireturn, 1) := by decide +kernel
theorem dX7_size_0 : decode cX7_size 0 = .ok (.iconst 1, 1) := by decide +kernel
theorem dX7_size_1 : decode cX7_size 1 = .ok (.istore_n 1, 1) := by decide +kernel
theorem dX7_size_2 : decode cX7_size 2 = .ok (.iconst 0, 1) := by decide +kernel
theorem dX7_size_3 : decode cX7_size 3 = .ok (.istore_n 2, 1) := by decide +kernel
theorem dX7_size_4 : decode cX7_size 4 = .ok (.iload_n 2, 1) := by decide +kernel
theorem dX7_size_5 : decode cX7_size 5 = .ok (.aload_n 0, 1) := by decide +kernel
theorem dX7_size_6 : decode cX7_size 6 = .ok (.getfield 27, 3) := by decide +kernel
theorem dX7_size_9 : decode cX7_size 9 = .ok (.if_icmp .ge 50, 3) := by decide +kernel
theorem dX7_size_12 : decode cX7_size 12 = .ok (.iload_n 1, 1) := by decide +kernel
theorem dX7_size_13 : decode cX7_size 13 = .ok (.iconst 2, 1) := by decide +kernel
theorem dX7_size_14 : decode cX7_size 14 = .ok (.aload_n 0, 1) := by decide +kernel
theorem dX7_size_15 : decode cX7_size 15 = .ok (.getfield 33, 3) := by decide +kernel
theorem dX7_size_18 : decode cX7_size 18 = .ok (.iload_n 2, 1) := by decide +kernel
theorem dX7_size_19 : decode cX7_size 19 = .ok (.iaload, 1) := by decide +kernel
theorem dX7_size_20 : decode cX7_size 20 = .ok (.iadd, 1) := by decide +kernel
theorem dX7_size_21 : decode cX7_size 21 = .ok (.iload_n 2, 1) := by decide +kernel
theorem dX7_size_22 : decode cX7_size 22 = .ok (.iconst 1, 1) := by decide +kernel
theorem dX7_size_23 : decode cX7_size 23 = .ok (.iadd, 1) := by decide +kernel
theorem dX7_size_24 : decode cX7_size 24 = .ok (.aload_n 0, 1) := by decide +kernel
theorem dX7_size_25 : decode cX7_size 25 = .ok (.getfield 27, 3) := by decide +kernel
theorem dX7_size_28 : decode cX7_size 28 = .ok (.if_icmp .ge 21, 3) := by decide +kernel
theorem dX7_size_31 : decode cX7_size 31 = .ok (.aload_n 0, 1) := by decide +kernel
theorem dX7_size_32 : decode cX7_size 32 = .ok (.getfield 17, 3) := by decide +kernel
theorem dX7_size_35 : decode cX7_size 35 = .ok (.aload_n 0, 1) := by decide +kernel
theorem dX7_size_36 : decode cX7_size 36 = .ok (.getfield 30, 3) := by decide +kernel
theorem dX7_size_39 : decode cX7_size 39 = .ok (.iload_n 2, 1) := by decide +kernel
theorem dX7_size_40 : decode cX7_size 40 = .ok (.iaload, 1) := by decide +kernel
theorem dX7_size_41 : decode cX7_size 41 = .ok (.baload, 1) := by decide +kernel
theorem dX7_size_42 : decode cX7_size 42 = .ok (.ifCond .ne 7, 3) := by decide +kernel
theorem dX7_size_45 : decode cX7_size 45 = .ok (.iconst 1, 1) := by decide +kernel
theorem dX7_size_46 : decode cX7_size 46 = .ok (.goto 4, 3) := by decide +kernel
theorem dX7_size_49 : decode cX7_size 49 = .ok (.iconst 0, 1) := by decide +kernel
theorem dX7_size_50 : decode cX7_size 50 = .ok (.iadd, 1) := by decide +kernel
theorem dX7_size_51 : decode cX7_size 51 = .ok (.iadd, 1) := by decide +kernel
theorem dX7_size_52 : decode cX7_size 52 = .ok (.istore_n 1, 1) := by decide +kernel
theorem dX7_size_53 : decode cX7_size 53 = .ok (.iinc 2 1, 3) := by decide +kernel
theorem dX7_size_56 : decode cX7_size 56 = .ok (.goto (-52), 3) := by decide +kernel
theorem dX7_size_59 : decode cX7_size 59 = .ok (.iload_n 1, 1) := by decide +kernel
theorem dX7_size_60 : decode cX7_size 60 = .ok (.ireturn, 1) := by decide +kernel
theorem dX7_make_0 : decode cX7_make 0 = .ok (.aload_n 0, 1) := by decide +kernel
theorem dX7_make_1 : decode cX7_make 1 = .ok (.aload_n 0, 1) := by decide +kernel
theorem dX7_make_2 : decode cX7_make 2 = .ok (.getfield 27, 3) := by decide +kernel
theorem dX7_make_5 : decode cX7_make 5 = .ok (.ifCond .ne 7, 3) := by decide +kernel
theorem dX7_make_8 : decode cX7_make 8 = .ok (.iconst 1, 1) := by decide +kernel
theorem dX7_make_9 : decode cX7_make 9 = .ok (.goto 17, 3) := by decide +kernel
theorem dX7_make_12 : decode cX7_make 12 = .ok (.aload_n 0, 1) := by decide +kernel
theorem dX7_make_13 : decode cX7_make 13 = .ok (.invokevirtual 137, 3) := by decide +kernel
theorem dX7_make_16 : decode cX7_make 16 = .ok (.bipush 60, 2) := by decide +kernel
theorem dX7_make_18 : decode cX7_make 18 = .ok (.if_icmp .le 7, 3) := by decide +kernel
theorem dX7_make_21 : decode cX7_make 21 = .ok (.iconst 2, 1) := by decide +kernel
theorem dX7_make_22 : decode cX7_make 22 = .ok (.goto 4, 3) := by decide +kernel
theorem dX7_make_25 : decode cX7_make 25 = .ok (.iconst 0, 1) := by decide +kernel
theorem dX7_make_26 : decode cX7_make 26 = .ok (.putfield 7, 3) := by decide +kernel
theorem dX7_make_29 : decode cX7_make 29 = .ok (.aload_n 0, 1) := by decide +kernel
theorem dX7_make_30 : decode cX7_make 30 = .ok (.getfield 7, 3) := by decide +kernel
theorem dX7_make_33 : decode cX7_make 33 = .ok (.ifCond .eq 5, 3) := by decide +kernel
theorem dX7_make_36 : decode cX7_make 36 = .ok (.iconst 0, 1) := by decide +kernel
theorem dX7_make_37 : decode cX7_make 37 = .ok (.ireturn, 1) := by decide +kernel
theorem dX7_make_38 : decode cX7_make 38 = .ok (.aload_n 0, 1) := by decide +kernel
theorem dX7_make_39 : decode cX7_make 39 = .ok (.getfield 103, 3) := by decide +kernel
theorem dX7_make_42 : decode cX7_make 42 = .ok (.astore_n 1, 1) := by decide +kernel
theorem dX7_make_43 : decode cX7_make 43 = .ok (.iconst 0, 1) := by decide +kernel
theorem dX7_make_44 : decode cX7_make 44 = .ok (.istore_n 2, 1) := by decide +kernel
theorem dX7_make_45 : decode cX7_make 45 = .ok (.iconst 0, 1) := by decide +kernel
theorem dX7_make_46 : decode cX7_make 46 = .ok (.istore_n 3, 1) := by decide +kernel
theorem dX7_make_47 : decode cX7_make 47 = .ok (.iload_n 3, 1) := by decide +kernel
theorem dX7_make_48 : decode cX7_make 48 = .ok (.aload_n 0, 1) := by decide +kernel
theorem dX7_make_49 : decode cX7_make 49 = .ok (.getfield 27, 3) := by decide +kernel
theorem dX7_make_52 : decode cX7_make 52 = .ok (.if_icmp .ge 129, 3) := by decide +kernel
theorem dX7_make_55 : decode cX7_make 55 = .ok (.aload_n 1, 1) := by decide +kernel
theorem dX7_make_56 : decode cX7_make 56 = .ok (.iload_n 2, 1) := by decide +kernel
theorem dX7_make_57 : decode cX7_make 57 = .ok (.aload_n 0, 1) := by decide +kernel
theorem dX7_make_58 : decode cX7_make 58 = .ok (.getfield 30, 3) := by decide +kernel
theorem dX7_make_61 : decode cX7_make 61 = .ok (.iload_n 3, 1) := by decide +kernel
theorem dX7_make_62 : decode cX7_make 62 = .ok (.iaload, 1) := by decide +kernel
theorem dX7_make_63 : decode cX7_make 63 = .ok (.bipush 10, 2) := by decide +kernel
theorem dX7_make_65 : decode cX7_make 65 = .ok (.idiv, 1) := by decide +kernel
theorem dX7_make_66 : decode cX7_make 66 = .ok (.iastore, 1) := by decide +kernel
theorem dX7_make_67 : decode cX7_make 67 = .ok (.aload_n 1, 1) := by decide +kernel
theorem dX7_make_68 : decode cX7_make 68 = .ok (.iload_n 2, 1) := by decide +kernel
theorem dX7_make_69 : decode cX7_make 69 = .ok (.iconst 1, 1) := by decide +kernel
theorem dX7_make_70 : decode cX7_make 70 = .ok (.iadd, 1) := by decide +kernel
theorem dX7_make_71 : decode cX7_make 71 = .ok (.aload_n 0, 1) := by decide +kernel
theorem dX7_make_72 : decode cX7_make 72 = .ok (.getfield 30, 3) := by decide +kernel
theorem dX7_make_75 : decode cX7_make 75 = .ok (.iload_n 3, 1) := by decide +kernel
theorem dX7_make_76 : decode cX7_make 76 = .ok (.iaload, 1) := by decide +kernel
theorem dX7_make_77 : decode cX7_make 77 = .ok (.bipush 10, 2) := by decide +kernel
theorem dX7_make_79 : decode cX7_make 79 = .ok (.irem, 1) := by decide +kernel
theorem dX7_make_80 : decode cX7_make 80 = .ok (.iastore, 1) := by decide +kernel
theorem dX7_make_81 : decode cX7_make 81 = .ok (.iinc 2 2, 3) := by decide +kernel
theorem dX7_make_84 : decode cX7_make 84 = .ok (.aload_n 0, 1) := by decide +kernel
theorem dX7_make_85 : decode cX7_make 85 = .ok (.getfield 36, 3) := by decide +kernel
theorem dX7_make_88 : decode cX7_make 88 = .ok (.iload_n 3, 1) := by decide +kernel
theorem dX7_make_89 : decode cX7_make 89 = .ok (.laload, 1) := by decide +kernel
theorem dX7_make_90 : decode cX7_make 90 = .ok (.lstore 4, 2) := by decide +kernel
theorem dX7_make_92 : decode cX7_make 92 = .ok (.aload_n 0, 1) := by decide +kernel
theorem dX7_make_93 : decode cX7_make 93 = .ok (.getfield 33, 3) := by decide +kernel
theorem dX7_make_96 : decode cX7_make 96 = .ok (.iload_n 3, 1) := by decide +kernel
theorem dX7_make_97 : decode cX7_make 97 = .ok (.iaload, 1) := by decide +kernel
theorem dX7_make_98 : decode cX7_make 98 = .ok (.iconst 1, 1) := by decide +kernel
theorem dX7_make_99 : decode cX7_make 99 = .ok (.isub, 1) := by decide +kernel
theorem dX7_make_100 : decode cX7_make 100 = .ok (.istore 6, 2) := by decide +kernel
theorem dX7_make_102 : decode cX7_make 102 = .ok (.iload 6, 2) := by decide +kernel
theorem dX7_make_104 : decode cX7_make 104 = .ok (.ifCond .lt 30, 3) := by decide +kernel
theorem dX7_make_107 : decode cX7_make 107 = .ok (.aload_n 1, 1) := by decide +kernel
theorem dX7_make_108 : decode cX7_make 108 = .ok (.iload_n 2, 1) := by decide +kernel
theorem dX7_make_109 : decode cX7_make 109 = .ok (.iload 6, 2) := by decide +kernel
theorem dX7_make_111 : decode cX7_make 111 = .ok (.iadd, 1) := by decide +kernel
theorem dX7_make_112 : decode cX7_make 112 = .ok (.lload 4, 2) := by decide +kernel
theorem dX7_make_114 : decode cX7_make 114 = .ok (.ldc2_w 132, 3) := by decide +kernel
theorem dX7_make_117 : decode cX7_make 117 = .ok (.lrem, 1) := by decide +kernel
theorem dX7_make_118 : decode cX7_make 118 = .ok (.l2i, 1) := by decide +kernel
theorem dX7_make_119 : decode cX7_make 119 = .ok (.iastore, 1) := by decide +kernel
theorem dX7_make_120 : decode cX7_make 120 = .ok (.lload 4, 2) := by decide +kernel
theorem dX7_make_122 : decode cX7_make 122 = .ok (.ldc2_w 132, 3) := by decide +kernel
theorem dX7_make_125 : decode cX7_make 125 = .ok (.ldiv, 1) := by decide +kernel
theorem dX7_make_126 : decode cX7_make 126 = .ok (.lstore 4, 2) := by decide +kernel
theorem dX7_make_128 : decode cX7_make 128 = .ok (.iinc 6 (-1), 3) := by decide +kernel
theorem dX7_make_131 : decode cX7_make 131 = .ok (.goto (-29), 3) := by decide +kernel
theorem dX7_make_134 : decode cX7_make 134 = .ok (.iload_n 2, 1) := by decide +kernel
theorem dX7_make_135 : decode cX7_make 135 = .ok (.aload_n 0, 1) := by decide +kernel
theorem dX7_make_136 : decode cX7_make 136 = .ok (.getfield 33, 3) := by decide +kernel
theorem dX7_make_139 : decode cX7_make 139 = .ok (.iload_n 3, 1) := by decide +kernel
theorem dX7_make_140 : decode cX7_make 140 = .ok (.iaload, 1) := by decide +kernel
theorem dX7_make_141 : decode cX7_make 141 = .ok (.iadd, 1) := by decide +kernel
theorem dX7_make_142 : decode cX7_make 142 = .ok (.istore_n 2, 1) := by decide +kernel
theorem dX7_make_143 : decode cX7_make 143 = .ok (.iload_n 3, 1) := by decide +kernel
theorem dX7_make_144 : decode cX7_make 144 = .ok (.iconst 1, 1) := by decide +kernel
theorem dX7_make_145 : decode cX7_make 145 = .ok (.iadd, 1) := by decide +kernel
theorem dX7_make_146 : decode cX7_make 146 = .ok (.aload_n 0, 1) := by decide +kernel
theorem dX7_make_147 : decode cX7_make 147 = .ok (.getfield 27, 3) := by decide +kernel
theorem dX7_make_150 : decode cX7_make 150 = .ok (.if_icmp .ge 25, 3) := by decide +kernel
theorem dX7_make_153 : decode cX7_make 153 = .ok (.aload_n 0, 1) := by decide +kernel
theorem dX7_make_154 : decode cX7_make 154 = .ok (.getfield 17, 3) := by decide +kernel
theorem dX7_make_157 : decode cX7_make 157 = .ok (.aload_n 0, 1) := by decide +kernel
theorem dX7_make_158 : decode cX7_make 158 = .ok (.getfield 30, 3) := by decide +kernel
theorem dX7_make_161 : decode cX7_make 161 = .ok (.iload_n 3, 1) := by decide +kernel
theorem dX7_make_162 : decode cX7_make 162 = .ok (.iaload, 1) := by decide +kernel
theorem dX7_make_163 : decode cX7_make 163 = .ok (.baload, 1) := by decide +kernel
theorem dX7_make_164 : decode cX7_make 164 = .ok (.ifCond .ne 11, 3) := by decide +kernel
theorem dX7_make_167 : decode cX7_make 167 = .ok (.aload_n 1, 1) := by decide +kernel
theorem dX7_make_168 : decode cX7_make 168 = .ok (.iload_n 2, 1) := by decide +kernel
theorem dX7_make_169 : decode cX7_make 169 = .ok (.bipush 10, 2) := by decide +kernel
theorem dX7_make_171 : decode cX7_make 171 = .ok (.iastore, 1) := by decide +kernel
theorem dX7_make_172 : decode cX7_make 172 = .ok (.iinc 2 1, 3) := by decide +kernel
theorem dX7_make_175 : decode cX7_make 175 = .ok (.iinc 3 1, 3) := by decide +kernel
theorem dX7_make_178 : decode cX7_make 178 = .ok (.goto (-131), 3) := by decide +kernel
theorem dX7_make_181 : decode cX7_make 181 = .ok (.aload_n 1, 1) := by decide +kernel
theorem dX7_make_182 : decode cX7_make 182 = .ok (.iload_n 2, 1) := by decide +kernel
theorem dX7_make_183 : decode cX7_make 183 = .ok (.aload_n 1, 1) := by decide +kernel
theorem dX7_make_184 : decode cX7_make 184 = .ok (.iload_n 2, 1) := by decide +kernel
theorem dX7_make_185 : decode cX7_make 185 = .ok (.invokestatic 124, 3) := by decide +kernel
theorem dX7_make_188 : decode cX7_make 188 = .ok (.iastore, 1) := by decide +kernel
theorem dX7_make_189 : decode cX7_make 189 = .ok (.iinc 2 1, 3) := by decide +kernel
theorem dX7_make_192 : decode cX7_make 192 = .ok (.iconst 0, 1) := by decide +kernel
theorem dX7_make_193 : decode cX7_make 193 = .ok (.istore_n 3, 1) := by decide +kernel
theorem dX7_make_194 : decode cX7_make 194 = .ok (.iload_n 3, 1) := by decide +kernel
theorem dX7_make_195 : decode cX7_make 195 = .ok (.iload_n 2, 1) := by decide +kernel
theorem dX7_make_196 : decode cX7_make 196 = .ok (.if_icmp .ge 48, 3) := by decide +kernel
theorem dX7_make_199 : decode cX7_make 199 = .ok (.iconst 0, 1) := by decide +kernel
theorem dX7_make_200 : decode cX7_make 200 = .ok (.istore 4, 2) := by decide +kernel
theorem dX7_make_202 : decode cX7_make 202 = .ok (.iload 4, 2) := by decide +kernel
theorem dX7_make_204 : decode cX7_make 204 = .ok (.aload_n 0, 1) := by decide +kernel
theorem dX7_make_205 : decode cX7_make 205 = .ok (.invokevirtual 109, 3) := by decide +kernel
theorem dX7_make_208 : decode cX7_make 208 = .ok (.if_icmp .ge 30, 3) := by decide +kernel
theorem dX7_make_211 : decode cX7_make 211 = .ok (.aload_n 0, 1) := by decide +kernel
theorem dX7_make_212 : decode cX7_make 212 = .ok (.getfield 43, 3) := by decide +kernel
theorem dX7_make_215 : decode cX7_make 215 = .ok (.aload_n 0, 1) := by decide +kernel
theorem dX7_make_216 : decode cX7_make 216 = .ok (.iload_n 3, 1) := by decide +kernel
theorem dX7_make_217 : decode cX7_make 217 = .ok (.iload 4, 2) := by decide +kernel
theorem dX7_make_219 : decode cX7_make 219 = .ok (.iload_n 2, 1) := by decide +kernel
theorem dX7_make_220 : decode cX7_make 220 = .ok (.invokevirtual 113, 3) := by decide +kernel
theorem dX7_make_223 : decode cX7_make 223 = .ok (.aload_n 1, 1) := by decide +kernel
theorem dX7_make_224 : decode cX7_make 224 = .ok (.iload_n 3, 1) := by decide +kernel
theorem dX7_make_225 : decode cX7_make 225 = .ok (.iaload, 1) := by decide +kernel
theorem dX7_make_226 : decode cX7_make 226 = .ok (.iload 4, 2) := by decide +kernel
theorem dX7_make_228 : decode cX7_make 228 = .ok (.invokestatic 117, 3) := by decide +kernel
theorem dX7_make_231 : decode cX7_make 231 = .ok (.iastore, 1) := by decide +kernel
theorem dX7_make_232 : decode cX7_make 232 = .ok (.iinc 4 1, 3) := by decide +kernel
theorem dX7_make_235 : decode cX7_make 235 = .ok (.goto (-33), 3) := by decide +kernel
theorem dX7_make_238 : decode cX7_make 238 = .ok (.iinc 3 1, 3) := by decide +kernel
theorem dX7_make_241 : decode cX7_make 241 = .ok (.goto (-47), 3) := by decide +kernel
theorem dX7_make_244 : decode cX7_make 244 = .ok (.aload_n 0, 1) := by decide +kernel
theorem dX7_make_245 : decode cX7_make 245 = .ok (.iload_n 2, 1) := by decide +kernel
theorem dX7_make_246 : decode cX7_make 246 = .ok (.aload_n 0, 1) := by decide +kernel
theorem dX7_make_247 : decode cX7_make 247 = .ok (.invokevirtual 109, 3) := by decide +kernel
theorem dX7_make_250 : decode cX7_make 250 = .ok (.imul, 1) := by decide +kernel
theorem dX7_make_251 : decode cX7_make 251 = .ok (.putfield 40, 3) := by decide +kernel
theorem dX7_make_254 : decode cX7_make 254 = .ok (.aload_n 0, 1) := by decide +kernel
theorem dX7_make_255 : decode cX7_make 255 = .ok (.getfield 40, 3) := by decide +kernel
theorem dX7_make_258 : decode cX7_make 258 = .ok (.ireturn, 1) := by decide +kernel
theorem dX7_module_0 : decode cX7_module 0 = .ok (.aload_n 0, 1) := by decide +kernel
theorem dX7_module_1 : decode cX7_module 1 = .ok (.iload_n 1, 1) := by decide +kernel
theorem dX7_module_2 : decode cX7_module 2 = .ok (.ifCond .lt 11, 3) := by decide +kernel
theorem dX7_module_5 : decode cX7_module 5 = .ok (.iload_n 1, 1) := by decide +kernel
theorem dX7_module_6 : decode cX7_module 6 = .ok (.aload_n 0, 1) := by decide +kernel
theorem dX7_module_7 : decode cX7_module 7 = .ok (.getfield 40, 3) := by decide +kernel
theorem dX7_module_10 : decode cX7_module 10 = .ok (.if_icmp .lt 7, 3) := by decide +kernel
theorem dX7_module_13 : decode cX7_module 13 = .ok (.iconst 1, 1) := by decide +kernel
theorem dX7_module_14 : decode cX7_module 14 = .ok (.goto 4, 3) := by decide +kernel
theorem dX7_module_17 : decode cX7_module 17 = .ok (.iconst 0, 1) := by decide +kernel
theorem dX7_module_18 : decode cX7_module 18 = .ok (.putfield 7, 3) := by decide +kernel
theorem dX7_module_21 : decode cX7_module 21 = .ok (.aload_n 0, 1) := by decide +kernel
theorem dX7_module_22 : decode cX7_module 22 = .ok (.getfield 7, 3) := by decide +kernel
theorem dX7_module_25 : decode cX7_module 25 = .ok (.ifCond .eq 7, 3) := by decide +kernel
theorem dX7_module_28 : decode cX7_module 28 = .ok (.iconst 0, 1) := by decide +kernel
theorem dX7_module_29 : decode cX7_module 29 = .ok (.goto 9, 3) := by decide +kernel
theorem dX7_module_32 : decode cX7_module 32 = .ok (.aload_n 0, 1) := by decide +kernel
theorem dX7_module_33 : decode cX7_module 33 = .ok (.getfield 43, 3) := by decide +kernel
theorem dX7_module_36 : decode cX7_module 36 = .ok (.iload_n 1, 1) := by decide +kernel
theorem dX7_module_37 : decode cX7_module 37 = .ok (.iaload, 1) := by decide +kernel
theorem dX7_module_38 : decode cX7_module 38 = .ok (.ireturn, 1) := by decide +kernel
theorem dX7_clear_0 : decode cX7_clear 0 = .ok (.aload_n 0, 1) := by decide +kernel
theorem dX7_clear_1 : decode cX7_clear 1 = .ok (.iconst 0, 1) := by decide +kernel
theorem dX7_clear_2 : decode cX7_clear 2 = .ok (.putfield 7, 3) := by decide +kernel
theorem dX7_clear_5 : decode cX7_clear 5 = .ok (.aload_n 0, 1) := by decide +kernel
theorem dX7_clear_6 : decode cX7_clear 6 = .ok (.iconst 0, 1) := by decide +kernel
theorem dX7_clear_7 : decode cX7_clear 7 = .ok (.putfield 46, 3) := by decide +kernel
theorem dX7_clear_10 : decode cX7_clear 10 = .ok (.aload_n 0, 1) := by decide +kernel
theorem dX7_clear_11 : decode cX7_clear 11 = .ok (.iconst 0, 1) := by decide +kernel
theorem dX7_clear_12 : decode cX7_clear 12 = .ok (.putfield 52, 3) := by decide +kernel
theorem dX7_clear_15 : decode cX7_clear 15 = .ok (.aload_n 0, 1) := by decide +kernel
theorem dX7_clear_16 : decode cX7_clear 16 = .ok (.iconst 0, 1) := by decide +kernel
theorem dX7_clear_17 : decode cX7_clear 17 = .ok (.putfield 58, 3) := by decide +kernel
theorem dX7_clear_20 : decode cX7_clear 20 = .ok (.aload_n 0, 1) := by decide +kernel
theorem dX7_clear_21 : decode cX7_clear 21 = .ok (.invokevirtual 121, 3) := by decide +kernel
theorem dX7_clear_24 : decode cX7_clear 24 = .ok (.return_, 1) := by decide +kernel
theorem dX7_read_0 : decode cX7_read 0 = .ok (.aload_n 0, 1) := by decide +kernel
theorem dX7_read_1 : decode cX7_read 1 = .ok (.iload_n 1, 1) := by decide +kernel
theorem dX7_read_2 : decode cX7_read 2 = .ok (.ifCond .lt 8, 3) := by decide +kernel
theorem dX7_read_5 : decode cX7_read 5 = .ok (.iload_n 1, 1) := by decide +kernel
theorem dX7_read_6 : decode cX7_read 6 = .ok (.iconst 2, 1) := by decide +kernel
theorem dX7_read_7 : decode cX7_read 7 = .ok (.if_icmp .le 7, 3) := by decide +kernel
theorem dX7_read_10 : decode cX7_read 10 = .ok (.iconst 1, 1) := by decide +kernel
theorem dX7_read_11 : decode cX7_read 11 = .ok (.goto 18, 3) := by decide +kernel
theorem dX7_read_14 : decode cX7_read 14 = .ok (.aload_n 0, 1) := by decide +kernel
theorem dX7_read_15 : decode cX7_read 15 = .ok (.getfield 46, 3) := by decide +kernel
theorem dX7_read_18 : decode cX7_read 18 = .ok (.sipush 420, 3) := by decide +kernel
theorem dX7_read_21 : decode cX7_read 21 = .ok (.if_icmp .ne 7, 3) := by decide +kernel
theorem dX7_read_24 : decode cX7_read 24 = .ok (.iconst 2, 1) := by decide +kernel
theorem dX7_read_25 : decode cX7_read 25 = .ok (.goto 4, 3) := by decide +kernel
theorem dX7_read_28 : decode cX7_read 28 = .ok (.iconst 0, 1) := by decide +kernel
theorem dX7_read_29 : decode cX7_read 29 = .ok (.putfield 7, 3) := by decide +kernel
theorem dX7_read_32 : decode cX7_read 32 = .ok (.aload_n 0, 1) := by decide +kernel
theorem dX7_read_33 : decode cX7_read 33 = .ok (.getfield 7, 3) := by decide +kernel
theorem dX7_read_36 : decode cX7_read 36 = .ok (.ifCond .eq 5, 3) := by decide +kernel
theorem dX7_read_39 : decode cX7_read 39 = .ok (.iconst 0, 1) := by decide +kernel
theorem dX7_read_40 : decode cX7_read 40 = .ok (.ireturn, 1) := by decide +kernel
theorem dX7_read_41 : decode cX7_read 41 = .ok (.aload_n 0, 1) := by decide +kernel
theorem dX7_read_42 : decode cX7_read 42 = .ok (.getfield 49, 3) := by decide +kernel
theorem dX7_read_45 : decode cX7_read 45 = .ok (.aload_n 0, 1) := by decide +kernel
theorem dX7_read_46 : decode cX7_read 46 = .ok (.getfield 46, 3) := by decide +kernel
theorem dX7_read_49 : decode cX7_read 49 = .ok (.iload_n 1, 1) := by decide +kernel
theorem dX7_read_50 : decode cX7_read 50 = .ok (.iastore, 1) := by decide +kernel
theorem dX7_read_51 : decode cX7_read 51 = .ok (.aload_n 0, 1) := by decide +kernel
theorem dX7_read_52 : decode cX7_read 52 = .ok (.dup, 1) := by decide +kernel
theorem dX7_read_53 : decode cX7_read 53 = .ok (.getfield 46, 3) := by decide +kernel
theorem dX7_read_56 : decode cX7_read 56 = .ok (.iconst 1, 1) := by decide +kernel
theorem dX7_read_57 : decode cX7_read 57 = .ok (.iadd, 1) := by decide +kernel
theorem dX7_read_58 : decode cX7_read 58 = .ok (.putfield 46, 3) := by decide +kernel
theorem dX7_read_61 : decode cX7_read 61 = .ok (.aload_n 0, 1) := by decide +kernel
theorem dX7_read_62 : decode cX7_read 62 = .ok (.getfield 46, 3) := by decide +kernel
theorem dX7_read_65 : decode cX7_read 65 = .ok (.ireturn, 1) := by decide +kernel
theorem dX7_typed_0 : decode cX7_typed 0 = .ok (.aload_n 0, 1) := by decide +kernel
theorem dX7_typed_1 : decode cX7_typed 1 = .ok (.iload_n 1, 1) := by decide +kernel
theorem dX7_typed_2 : decode cX7_typed 2 = .ok (.ifCond .lt 9, 3) := by decide +kernel
theorem dX7_typed_5 : decode cX7_typed 5 = .ok (.iload_n 1, 1) := by decide +kernel
theorem dX7_typed_6 : decode cX7_typed 6 = .ok (.bipush 10, 2) := by decide +kernel
theorem dX7_typed_8 : decode cX7_typed 8 = .ok (.if_icmp .le 7, 3) := by decide +kernel
theorem dX7_typed_11 : decode cX7_typed 11 = .ok (.iconst 1, 1) := by decide +kernel
theorem dX7_typed_12 : decode cX7_typed 12 = .ok (.goto 17, 3) := by decide +kernel
theorem dX7_typed_15 : decode cX7_typed 15 = .ok (.aload_n 0, 1) := by decide +kernel
theorem dX7_typed_16 : decode cX7_typed 16 = .ok (.getfield 52, 3) := by decide +kernel
theorem dX7_typed_19 : decode cX7_typed 19 = .ok (.bipush 60, 2) := by decide +kernel
theorem dX7_typed_21 : decode cX7_typed 21 = .ok (.if_icmp .ne 7, 3) := by decide +kernel
theorem dX7_typed_24 : decode cX7_typed 24 = .ok (.iconst 2, 1) := by decide +kernel
theorem dX7_typed_25 : decode cX7_typed 25 = .ok (.goto 4, 3) := by decide +kernel
theorem dX7_typed_28 : decode cX7_typed 28 = .ok (.iconst 0, 1) := by decide +kernel
theorem dX7_typed_29 : decode cX7_typed 29 = .ok (.putfield 7, 3) := by decide +kernel
theorem dX7_typed_32 : decode cX7_typed 32 = .ok (.aload_n 0, 1) := by decide +kernel
theorem dX7_typed_33 : decode cX7_typed 33 = .ok (.getfield 7, 3) := by decide +kernel
theorem dX7_typed_36 : decode cX7_typed 36 = .ok (.ifCond .eq 5, 3) := by decide +kernel
theorem dX7_typed_39 : decode cX7_typed 39 = .ok (.iconst 0, 1) := by decide +kernel
theorem dX7_typed_40 : decode cX7_typed 40 = .ok (.ireturn, 1) := by decide +kernel
theorem dX7_typed_41 : decode cX7_typed 41 = .ok (.aload_n 0, 1) := by decide +kernel
theorem dX7_typed_42 : decode cX7_typed 42 = .ok (.getfield 55, 3) := by decide +kernel
theorem dX7_typed_45 : decode cX7_typed 45 = .ok (.aload_n 0, 1) := by decide +kernel
theorem dX7_typed_46 : decode cX7_typed 46 = .ok (.getfield 52, 3) := by decide +kernel
theorem dX7_typed_49 : decode cX7_typed 49 = .ok (.iload_n 1, 1) := by decide +kernel
theorem dX7_typed_50 : decode cX7_typed 50 = .ok (.iastore, 1) := by decide +kernel
theorem dX7_typed_51 : decode cX7_typed 51 = .ok (.aload_n 0, 1) := by decide +kernel
theorem dX7_typed_52 : decode cX7_typed 52 = .ok (.dup, 1) := by decide +kernel
theorem dX7_typed_53 : decode cX7_typed 53 = .ok (.getfield 52, 3) := by decide +kernel
theorem dX7_typed_56 : decode cX7_typed 56 = .ok (.iconst 1, 1) := by decide +kernel
theorem dX7_typed_57 : decode cX7_typed 57 = .ok (.iadd, 1) := by decide +kernel
theorem dX7_typed_58 : decode cX7_typed 58 = .ok (.putfield 52, 3) := by decide +kernel
theorem dX7_typed_61 : decode cX7_typed 61 = .ok (.aload_n 0, 1) := by decide +kernel
theorem dX7_typed_62 : decode cX7_typed 62 = .ok (.getfield 52, 3) := by decide +kernel
theorem dX7_typed_65 : decode cX7_typed 65 = .ok (.ireturn, 1) := by decide +kernel
theorem dX7_parse_0 : decode cX7_parse 0 = .ok (.aload_n 0, 1) := by decide +kernel
theorem dX7_parse_1 : decode cX7_parse 1 = .ok (.aload_n 0, 1) := by decide +kernel
theorem dX7_parse_2 : decode cX7_parse 2 = .ok (.getfield 46, 3) := by decide +kernel
theorem dX7_parse_5 : decode cX7_parse 5 = .ok (.ifCond .ne 7, 3) := by decide +kernel
theorem dX7_parse_8 : decode cX7_parse 8 = .ok (.iconst 1, 1) := by decide +kernel
theorem dX7_parse_9 : decode cX7_parse 9 = .ok (.goto 4, 3) := by decide +kernel
theorem dX7_parse_12 : decode cX7_parse 12 = .ok (.iconst 0, 1) := by decide +kernel
theorem dX7_parse_13 : decode cX7_parse 13 = .ok (.putfield 7, 3) := by decide +kernel
theorem dX7_parse_16 : decode cX7_parse 16 = .ok (.aload_n 0, 1) := by decide +kernel
theorem dX7_parse_17 : decode cX7_parse 17 = .ok (.getfield 7, 3) := by decide +kernel
theorem dX7_parse_20 : decode cX7_parse 20 = .ok (.ifCond .eq 5, 3) := by decide +kernel
theorem dX7_parse_23 : decode cX7_parse 23 = .ok (.iconst 0, 1) := by decide +kernel
theorem dX7_parse_24 : decode cX7_parse 24 = .ok (.ireturn, 1) := by decide +kernel
theorem dX7_parse_25 : decode cX7_parse 25 = .ok (.aload_n 0, 1) := by decide +kernel
theorem dX7_parse_26 : decode cX7_parse 26 = .ok (.invokevirtual 121, 3) := by decide +kernel
theorem dX7_parse_29 : decode cX7_parse 29 = .ok (.aload_n 0, 1) := by decide +kernel
theorem dX7_parse_30 : decode cX7_parse 30 = .ok (.iconst 0, 1) := by decide +kernel
theorem dX7_parse_31 : decode cX7_parse 31 = .ok (.putfield 58, 3) := by decide +kernel
theorem dX7_parse_34 : decode cX7_parse 34 = .ok (.aload_n 0, 1) := by decide +kernel
theorem dX7_parse_35 : decode cX7_parse 35 = .ok (.iconst 0, 1) := by decide +kernel
theorem dX7_parse_36 : decode cX7_parse 36 = .ok (.putfield 61, 3) := by decide +kernel
theorem dX7_parse_39 : decode cX7_parse 39 = .ok (.aload_n 0, 1) := by decide +kernel
theorem dX7_parse_40 : decode cX7_parse 40 = .ok (.getfield 46, 3) := by decide +kernel
theorem dX7_parse_43 : decode cX7_parse 43 = .ok (.aload_n 0, 1) := by decide +kernel
theorem dX7_parse_44 : decode cX7_parse 44 = .ok (.invokevirtual 109, 3) := by decide +kernel
theorem dX7_parse_47 : decode cX7_parse 47 = .ok (.irem, 1) := by decide +kernel
theorem dX7_parse_48 : decode cX7_parse 48 = .ok (.ifCond .eq 5, 3) := by decide +kernel
theorem dX7_parse_51 : decode cX7_parse 51 = .ok (.iconst 0, 1) := by decide +kernel
theorem dX7_parse_52 : decode cX7_parse 52 = .ok (.ireturn, 1) := by decide +kernel
theorem dX7_parse_53 : decode cX7_parse 53 = .ok (.aload_n 0, 1) := by decide +kernel
theorem dX7_parse_54 : decode cX7_parse 54 = .ok (.getfield 46, 3) := by decide +kernel
theorem dX7_parse_57 : decode cX7_parse 57 = .ok (.aload_n 0, 1) := by decide +kernel
theorem dX7_parse_58 : decode cX7_parse 58 = .ok (.invokevirtual 109, 3) := by decide +kernel
theorem dX7_parse_61 : decode cX7_parse 61 = .ok (.idiv, 1) := by decide +kernel
theorem dX7_parse_62 : decode cX7_parse 62 = .ok (.istore_n 1, 1) := by decide +kernel
theorem dX7_parse_63 : decode cX7_parse 63 = .ok (.iconst 0, 1) := by decide +kernel
theorem dX7_parse_64 : decode cX7_parse 64 = .ok (.istore_n 2, 1) := by decide +kernel
theorem dX7_parse_65 : decode cX7_parse 65 = .ok (.iload_n 2, 1) := by decide +kernel
theorem dX7_parse_66 : decode cX7_parse 66 = .ok (.iload_n 1, 1) := by decide +kernel
theorem dX7_parse_67 : decode cX7_parse 67 = .ok (.if_icmp .ge 27, 3) := by decide +kernel
theorem dX7_parse_70 : decode cX7_parse 70 = .ok (.aload_n 0, 1) := by decide +kernel
theorem dX7_parse_71 : decode cX7_parse 71 = .ok (.iload_n 2, 1) := by decide +kernel
theorem dX7_parse_72 : decode cX7_parse 72 = .ok (.iload_n 1, 1) := by decide +kernel
theorem dX7_parse_73 : decode cX7_parse 73 = .ok (.invokevirtual 140, 3) := by decide +kernel
theorem dX7_parse_76 : decode cX7_parse 76 = .ok (.istore_n 3, 1) := by decide +kernel
theorem dX7_parse_77 : decode cX7_parse 77 = .ok (.iload_n 3, 1) := by decide +kernel
theorem dX7_parse_78 : decode cX7_parse 78 = .ok (.ifCond .ge 5, 3) := by decide +kernel
theorem dX7_parse_81 : decode cX7_parse 81 = .ok (.iconst 0, 1) := by decide +kernel
theorem dX7_parse_82 : decode cX7_parse 82 = .ok (.ireturn, 1) := by decide +kernel
theorem dX7_parse_83 : decode cX7_parse 83 = .ok (.aload_n 0, 1) := by decide +kernel
theorem dX7_parse_84 : decode cX7_parse 84 = .ok (.iload_n 3, 1) := by decide +kernel
theorem dX7_parse_85 : decode cX7_parse 85 = .ok (.invokevirtual 143, 3) := by decide +kernel
theorem dX7_parse_88 : decode cX7_parse 88 = .ok (.iinc 2 1, 3) := by decide +kernel
theorem dX7_parse_91 : decode cX7_parse 91 = .ok (.goto (-26), 3) := by decide +kernel
theorem dX7_parse_94 : decode cX7_parse 94 = .ok (.aload_n 0, 1) := by decide +kernel
theorem dX7_parse_95 : decode cX7_parse 95 = .ok (.invokevirtual 147, 3) := by decide +kernel
theorem dX7_parse_98 : decode cX7_parse 98 = .ok (.ireturn, 1) := by decide +kernel
theorem dX7_parseTyped_0 : decode cX7_parseTyped 0 = .ok (.aload_n 0, 1) := by decide +kernel
theorem dX7_parseTyped_1 : decode cX7_parseTyped 1 = .ok (.aload_n 0, 1) := by decide +kernel
theorem dX7_parseTyped_2 : decode cX7_parseTyped 2 = .ok (.getfield 52, 3) := by decide +kernel
theorem dX7_parseTyped_5 : decode cX7_parseTyped 5 = .ok (.ifCond .ne 7, 3) := by decide +kernel
theorem dX7_parseTyped_8 : decode cX7_parseTyped 8 = .ok (.iconst 1, 1) := by decide +kernel
theorem dX7_parseTyped_9 : decode cX7_parseTyped 9 = .ok (.goto 4, 3) := by decide +kernel
theorem dX7_parseTyped_12 : decode cX7_parseTyped 12 = .ok (.iconst 0, 1) := by decide +kernel
theorem dX7_parseTyped_13 : decode cX7_parseTyped 13 = .ok (.putfield 7, 3) := by decide +kernel
theorem dX7_parseTyped_16 : decode cX7_parseTyped 16 = .ok (.aload_n 0, 1) := by decide +kernel
theorem dX7_parseTyped_17 : decode cX7_parseTyped 17 = .ok (.getfield 7, 3) := by decide +kernel
theorem dX7_parseTyped_20 : decode cX7_parseTyped 20 = .ok (.ifCond .eq 5, 3) := by decide +kernel
theorem dX7_parseTyped_23 : decode cX7_parseTyped 23 = .ok (.iconst 0, 1) := by decide +kernel
theorem dX7_parseTyped_24 : decode cX7_parseTyped 24 = .ok (.ireturn, 1) := by decide +kernel
theorem dX7_parseTyped_25 : decode cX7_parseTyped 25 = .ok (.aload_n 0, 1) := by decide +kernel
theorem dX7_parseTyped_26 : decode cX7_parseTyped 26 = .ok (.iconst 0, 1) := by decide +kernel
theorem dX7_parseTyped_27 : decode cX7_parseTyped 27 = .ok (.putfield 61, 3) := by decide +kernel
theorem dX7_parseTyped_30 : decode cX7_parseTyped 30 = .ok (.iconst 0, 1) := by decide +kernel
theorem dX7_parseTyped_31 : decode cX7_parseTyped 31 = .ok (.istore_n 1, 1) := by decide +kernel
theorem dX7_parseTyped_32 : decode cX7_parseTyped 32 = .ok (.iload_n 1, 1) := by decide +kernel
theorem dX7_parseTyped_33 : decode cX7_parseTyped 33 = .ok (.aload_n 0, 1) := by decide +kernel
theorem dX7_parseTyped_34 : decode cX7_parseTyped 34 = .ok (.getfield 52, 3) := by decide +kernel
theorem dX7_parseTyped_37 : decode cX7_parseTyped 37 = .ok (.if_icmp .ge 19, 3) := by decide +kernel
theorem dX7_parseTyped_40 : decode cX7_parseTyped 40 = .ok (.aload_n 0, 1) := by decide +kernel
theorem dX7_parseTyped_41 : decode cX7_parseTyped 41 = .ok (.aload_n 0, 1) := by decide +kernel
theorem dX7_parseTyped_42 : decode cX7_parseTyped 42 = .ok (.getfield 55, 3) := by decide +kernel
theorem dX7_parseTyped_45 : decode cX7_parseTyped 45 = .ok (.iload_n 1, 1) := by decide +kernel
theorem dX7_parseTyped_46 : decode cX7_parseTyped 46 = .ok (.iaload, 1) := by decide +kernel
theorem dX7_parseTyped_47 : decode cX7_parseTyped 47 = .ok (.invokevirtual 143, 3) := by decide +kernel
theorem dX7_parseTyped_50 : decode cX7_parseTyped 50 = .ok (.iinc 1 1, 3) := by decide +kernel
theorem dX7_parseTyped_53 : decode cX7_parseTyped 53 = .ok (.goto (-21), 3) := by decide +kernel
theorem dX7_parseTyped_56 : decode cX7_parseTyped 56 = .ok (.aload_n 0, 1) := by decide +kernel
theorem dX7_parseTyped_57 : decode cX7_parseTyped 57 = .ok (.invokevirtual 147, 3) := by decide +kernel
theorem dX7_parseTyped_60 : decode cX7_parseTyped 60 = .ok (.ireturn, 1) := by decide +kernel
theorem dX7_check_0 : decode cX7_check 0 = .ok (.aload_n 0, 1) := by decide +kernel
theorem dX7_check_1 : decode cX7_check 1 = .ok (.aload_n 0, 1) := by decide +kernel
theorem dX7_check_2 : decode cX7_check 2 = .ok (.getfield 52, 3) := by decide +kernel
theorem dX7_check_5 : decode cX7_check 5 = .ok (.ifCond .ne 7, 3) := by decide +kernel
theorem dX7_check_8 : decode cX7_check 8 = .ok (.iconst 1, 1) := by decide +kernel
theorem dX7_check_9 : decode cX7_check 9 = .ok (.goto 4, 3) := by decide +kernel
theorem dX7_check_12 : decode cX7_check 12 = .ok (.iconst 0, 1) := by decide +kernel
theorem dX7_check_13 : decode cX7_check 13 = .ok (.putfield 7, 3) := by decide +kernel
theorem dX7_check_16 : decode cX7_check 16 = .ok (.aload_n 0, 1) := by decide +kernel
theorem dX7_check_17 : decode cX7_check 17 = .ok (.getfield 7, 3) := by decide +kernel
theorem dX7_check_20 : decode cX7_check 20 = .ok (.ifCond .eq 7, 3) := by decide +kernel
theorem dX7_check_23 : decode cX7_check 23 = .ok (.iconst 0, 1) := by decide +kernel
theorem dX7_check_24 : decode cX7_check 24 = .ok (.goto 14, 3) := by decide +kernel
theorem dX7_check_27 : decode cX7_check 27 = .ok (.aload_n 0, 1) := by decide +kernel
theorem dX7_check_28 : decode cX7_check 28 = .ok (.getfield 55, 3) := by decide +kernel
theorem dX7_check_31 : decode cX7_check 31 = .ok (.aload_n 0, 1) := by decide +kernel
theorem dX7_check_32 : decode cX7_check 32 = .ok (.getfield 52, 3) := by decide +kernel
theorem dX7_check_35 : decode cX7_check 35 = .ok (.invokestatic 124, 3) := by decide +kernel
theorem dX7_check_38 : decode cX7_check 38 = .ok (.ireturn, 1) := by decide +kernel
theorem dX7_known_0 : decode cX7_known 0 = .ok (.aload_n 0, 1) := by decide +kernel
theorem dX7_known_1 : decode cX7_known 1 = .ok (.iload_n 1, 1) := by decide +kernel
theorem dX7_known_2 : decode cX7_known 2 = .ok (.ifCond .lt 11, 3) := by decide +kernel
theorem dX7_known_5 : decode cX7_known 5 = .ok (.iload_n 1, 1) := by decide +kernel
theorem dX7_known_6 : decode cX7_known 6 = .ok (.aload_n 0, 1) := by decide +kernel
theorem dX7_known_7 : decode cX7_known 7 = .ok (.getfield 67, 3) := by decide +kernel
theorem dX7_known_10 : decode cX7_known 10 = .ok (.if_icmp .lt 7, 3) := by decide +kernel
theorem dX7_known_13 : decode cX7_known 13 = .ok (.iconst 1, 1) := by decide +kernel
theorem dX7_known_14 : decode cX7_known 14 = .ok (.goto 17, 3) := by decide +kernel
theorem dX7_known_17 : decode cX7_known 17 = .ok (.iload_n 2, 1) := by decide +kernel
theorem dX7_known_18 : decode cX7_known 18 = .ok (.ifCond .lt 8, 3) := by decide +kernel
theorem dX7_known_21 : decode cX7_known 21 = .ok (.iload_n 2, 1) := by decide +kernel
theorem dX7_known_22 : decode cX7_known 22 = .ok (.iconst 1, 1) := by decide +kernel
theorem dX7_known_23 : decode cX7_known 23 = .ok (.if_icmp .le 7, 3) := by decide +kernel
theorem dX7_known_26 : decode cX7_known 26 = .ok (.iconst 2, 1) := by decide +kernel
theorem dX7_known_27 : decode cX7_known 27 = .ok (.goto 4, 3) := by decide +kernel
theorem dX7_known_30 : decode cX7_known 30 = .ok (.iconst 0, 1) := by decide +kernel
theorem dX7_known_31 : decode cX7_known 31 = .ok (.putfield 7, 3) := by decide +kernel
theorem dX7_known_34 : decode cX7_known 34 = .ok (.aload_n 0, 1) := by decide +kernel
theorem dX7_known_35 : decode cX7_known 35 = .ok (.getfield 7, 3) := by decide +kernel
theorem dX7_known_38 : decode cX7_known 38 = .ok (.ifCond .eq 5, 3) := by decide +kernel
theorem dX7_known_41 : decode cX7_known 41 = .ok (.iconst 0, 1) := by decide +kernel
theorem dX7_known_42 : decode cX7_known 42 = .ok (.ireturn, 1) := by decide +kernel
theorem dX7_known_43 : decode cX7_known 43 = .ok (.iload_n 2, 1) := by decide +kernel
theorem dX7_known_44 : decode cX7_known 44 = .ok (.ifCond .ne 12, 3) := by decide +kernel
theorem dX7_known_47 : decode cX7_known 47 = .ok (.aload_n 0, 1) := by decide +kernel
theorem dX7_known_48 : decode cX7_known 48 = .ok (.getfield 70, 3) := by decide +kernel
theorem dX7_known_51 : decode cX7_known 51 = .ok (.iload_n 1, 1) := by decide +kernel
theorem dX7_known_52 : decode cX7_known 52 = .ok (.iaload, 1) := by decide +kernel
theorem dX7_known_53 : decode cX7_known 53 = .ok (.goto 9, 3) := by decide +kernel
