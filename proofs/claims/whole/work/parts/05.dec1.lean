theorem dX5_takeField_94 : decode cX5_takeField 94 = .ok (.goto 13, 3) := by decide +kernel
theorem dX5_takeField_97 : decode cX5_takeField 97 = .ok (.aload_n 0, 1) := by decide +kernel
theorem dX5_takeField_98 : decode cX5_takeField 98 = .ok (.aload_n 1, 1) := by decide +kernel
theorem dX5_takeField_99 : decode cX5_takeField 99 = .ok (.iload 5, 2) := by decide +kernel
theorem dX5_takeField_101 : decode cX5_takeField 101 = .ok (.iload 4, 2) := by decide +kernel
theorem dX5_takeField_103 : decode cX5_takeField 103 = .ok (.iload_n 3, 1) := by decide +kernel
theorem dX5_takeField_104 : decode cX5_takeField 104 = .ok (.invokevirtual 81, 3) := by decide +kernel
theorem dX5_takeField_107 : decode cX5_takeField 107 = .ok (.ireturn, 1) := by decide +kernel
theorem dX5_takeFixed_0 : decode cX5_takeFixed 0 = .ok (.aload_n 0, 1) := by decide +kernel
theorem dX5_takeFixed_1 : decode cX5_takeFixed 1 = .ok (.getfield 9, 3) := by decide +kernel
theorem dX5_takeFixed_4 : decode cX5_takeFixed 4 = .ok (.iload_n 2, 1) := by decide +kernel
theorem dX5_takeFixed_5 : decode cX5_takeFixed 5 = .ok (.invokevirtual 84, 3) := by decide +kernel
theorem dX5_takeFixed_8 : decode cX5_takeFixed 8 = .ok (.istore 5, 2) := by decide +kernel
theorem dX5_takeFixed_10 : decode cX5_takeFixed 10 = .ok (.iload 4, 2) := by decide +kernel
theorem dX5_takeFixed_12 : decode cX5_takeFixed 12 = .ok (.iload_n 3, 1) := by decide +kernel
theorem dX5_takeFixed_13 : decode cX5_takeFixed 13 = .ok (.isub, 1) := by decide +kernel
theorem dX5_takeFixed_14 : decode cX5_takeFixed 14 = .ok (.iload 5, 2) := by decide +kernel
theorem dX5_takeFixed_16 : decode cX5_takeFixed 16 = .ok (.if_icmp .ge 6, 3) := by decide +kernel
theorem dX5_takeFixed_19 : decode cX5_takeFixed 19 = .ok (.bipush (-5), 2) := by decide +kernel
theorem dX5_takeFixed_21 : decode cX5_takeFixed 21 = .ok (.ireturn, 1) := by decide +kernel
theorem dX5_takeFixed_22 : decode cX5_takeFixed 22 = .ok (.iload_n 3, 1) := by decide +kernel
theorem dX5_takeFixed_23 : decode cX5_takeFixed 23 = .ok (.iload 5, 2) := by decide +kernel
theorem dX5_takeFixed_25 : decode cX5_takeFixed 25 = .ok (.iadd, 1) := by decide +kernel
theorem dX5_takeFixed_26 : decode cX5_takeFixed 26 = .ok (.istore 6, 2) := by decide +kernel
theorem dX5_takeFixed_28 : decode cX5_takeFixed 28 = .ok (.aload_n 1, 1) := by decide +kernel
theorem dX5_takeFixed_29 : decode cX5_takeFixed 29 = .ok (.iload_n 3, 1) := by decide +kernel
theorem dX5_takeFixed_30 : decode cX5_takeFixed 30 = .ok (.iload 6, 2) := by decide +kernel
theorem dX5_takeFixed_32 : decode cX5_takeFixed 32 = .ok (.invokevirtual 59, 3) := by decide +kernel
theorem dX5_takeFixed_35 : decode cX5_takeFixed 35 = .ok (.iload 6, 2) := by decide +kernel
theorem dX5_takeFixed_37 : decode cX5_takeFixed 37 = .ok (.if_icmp .ge 6, 3) := by decide +kernel
theorem dX5_takeFixed_40 : decode cX5_takeFixed 40 = .ok (.bipush (-6), 2) := by decide +kernel
theorem dX5_takeFixed_42 : decode cX5_takeFixed 42 = .ok (.ireturn, 1) := by decide +kernel
theorem dX5_takeFixed_43 : decode cX5_takeFixed 43 = .ok (.aload_n 0, 1) := by decide +kernel
theorem dX5_takeFixed_44 : decode cX5_takeFixed 44 = .ok (.getfield 18, 3) := by decide +kernel
theorem dX5_takeFixed_47 : decode cX5_takeFixed 47 = .ok (.iload_n 2, 1) := by decide +kernel
theorem dX5_takeFixed_48 : decode cX5_takeFixed 48 = .ok (.iload 5, 2) := by decide +kernel
theorem dX5_takeFixed_50 : decode cX5_takeFixed 50 = .ok (.aload_n 1, 1) := by decide +kernel
theorem dX5_takeFixed_51 : decode cX5_takeFixed 51 = .ok (.iload_n 3, 1) := by decide +kernel
theorem dX5_takeFixed_52 : decode cX5_takeFixed 52 = .ok (.iload 6, 2) := by decide +kernel
theorem dX5_takeFixed_54 : decode cX5_takeFixed 54 = .ok (.invokevirtual 63, 3) := by decide +kernel
theorem dX5_takeFixed_57 : decode cX5_takeFixed 57 = .ok (.invokevirtual 87, 3) := by decide +kernel
theorem dX5_takeFixed_60 : decode cX5_takeFixed 60 = .ok (.iload 6, 2) := by decide +kernel
theorem dX5_takeFixed_62 : decode cX5_takeFixed 62 = .ok (.ireturn, 1) := by decide +kernel
theorem dX5_takeLoose_0 : decode cX5_takeLoose 0 = .ok (.aload_n 1, 1) := by decide +kernel
theorem dX5_takeLoose_1 : decode cX5_takeLoose 1 = .ok (.iload_n 3, 1) := by decide +kernel
theorem dX5_takeLoose_2 : decode cX5_takeLoose 2 = .ok (.iload 4, 2) := by decide +kernel
theorem dX5_takeLoose_4 : decode cX5_takeLoose 4 = .ok (.invokevirtual 59, 3) := by decide +kernel
theorem dX5_takeLoose_7 : decode cX5_takeLoose 7 = .ok (.istore 5, 2) := by decide +kernel
theorem dX5_takeLoose_9 : decode cX5_takeLoose 9 = .ok (.iload 5, 2) := by decide +kernel
theorem dX5_takeLoose_11 : decode cX5_takeLoose 11 = .ok (.iload_n 3, 1) := by decide +kernel
theorem dX5_takeLoose_12 : decode cX5_takeLoose 12 = .ok (.isub, 1) := by decide +kernel
theorem dX5_takeLoose_13 : decode cX5_takeLoose 13 = .ok (.istore 6, 2) := by decide +kernel
theorem dX5_takeLoose_15 : decode cX5_takeLoose 15 = .ok (.iload 6, 2) := by decide +kernel
theorem dX5_takeLoose_17 : decode cX5_takeLoose 17 = .ok (.iconst 1, 1) := by decide +kernel
theorem dX5_takeLoose_18 : decode cX5_takeLoose 18 = .ok (.if_icmp .lt 16, 3) := by decide +kernel
theorem dX5_takeLoose_21 : decode cX5_takeLoose 21 = .ok (.iload 6, 2) := by decide +kernel
theorem dX5_takeLoose_23 : decode cX5_takeLoose 23 = .ok (.aload_n 0, 1) := by decide +kernel
theorem dX5_takeLoose_24 : decode cX5_takeLoose 24 = .ok (.getfield 9, 3) := by decide +kernel
theorem dX5_takeLoose_27 : decode cX5_takeLoose 27 = .ok (.iload_n 2, 1) := by decide +kernel
theorem dX5_takeLoose_28 : decode cX5_takeLoose 28 = .ok (.invokevirtual 84, 3) := by decide +kernel
theorem dX5_takeLoose_31 : decode cX5_takeLoose 31 = .ok (.if_icmp .le 6, 3) := by decide +kernel
theorem dX5_takeLoose_34 : decode cX5_takeLoose 34 = .ok (.bipush (-5), 2) := by decide +kernel
theorem dX5_takeLoose_36 : decode cX5_takeLoose 36 = .ok (.ireturn, 1) := by decide +kernel
theorem dX5_takeLoose_37 : decode cX5_takeLoose 37 = .ok (.iload 5, 2) := by decide +kernel
theorem dX5_takeLoose_39 : decode cX5_takeLoose 39 = .ok (.iload 4, 2) := by decide +kernel
theorem dX5_takeLoose_41 : decode cX5_takeLoose 41 = .ok (.iconst 1, 1) := by decide +kernel
theorem dX5_takeLoose_42 : decode cX5_takeLoose 42 = .ok (.isub, 1) := by decide +kernel
theorem dX5_takeLoose_43 : decode cX5_takeLoose 43 = .ok (.if_icmp .ne 6, 3) := by decide +kernel
theorem dX5_takeLoose_46 : decode cX5_takeLoose 46 = .ok (.bipush (-6), 2) := by decide +kernel
theorem dX5_takeLoose_48 : decode cX5_takeLoose 48 = .ok (.ireturn, 1) := by decide +kernel
theorem dX5_takeLoose_49 : decode cX5_takeLoose 49 = .ok (.aload_n 0, 1) := by decide +kernel
theorem dX5_takeLoose_50 : decode cX5_takeLoose 50 = .ok (.getfield 18, 3) := by decide +kernel
theorem dX5_takeLoose_53 : decode cX5_takeLoose 53 = .ok (.iload_n 2, 1) := by decide +kernel
theorem dX5_takeLoose_54 : decode cX5_takeLoose 54 = .ok (.iload 6, 2) := by decide +kernel
theorem dX5_takeLoose_56 : decode cX5_takeLoose 56 = .ok (.aload_n 1, 1) := by decide +kernel
theorem dX5_takeLoose_57 : decode cX5_takeLoose 57 = .ok (.iload_n 3, 1) := by decide +kernel
theorem dX5_takeLoose_58 : decode cX5_takeLoose 58 = .ok (.iload 5, 2) := by decide +kernel
theorem dX5_takeLoose_60 : decode cX5_takeLoose 60 = .ok (.invokevirtual 63, 3) := by decide +kernel
theorem dX5_takeLoose_63 : decode cX5_takeLoose 63 = .ok (.invokevirtual 87, 3) := by decide +kernel
theorem dX5_takeLoose_66 : decode cX5_takeLoose 66 = .ok (.iload 5, 2) := by decide +kernel
theorem dX5_takeLoose_68 : decode cX5_takeLoose 68 = .ok (.iload 4, 2) := by decide +kernel
theorem dX5_takeLoose_70 : decode cX5_takeLoose 70 = .ok (.if_icmp .ge 10, 3) := by decide +kernel
theorem dX5_takeLoose_73 : decode cX5_takeLoose 73 = .ok (.iload 5, 2) := by decide +kernel
theorem dX5_takeLoose_75 : decode cX5_takeLoose 75 = .ok (.iconst 1, 1) := by decide +kernel
theorem dX5_takeLoose_76 : decode cX5_takeLoose 76 = .ok (.iadd, 1) := by decide +kernel
theorem dX5_takeLoose_77 : decode cX5_takeLoose 77 = .ok (.goto 5, 3) := by decide +kernel
theorem dX5_takeLoose_80 : decode cX5_takeLoose 80 = .ok (.iload 4, 2) := by decide +kernel
theorem dX5_takeLoose_82 : decode cX5_takeLoose 82 = .ok (.ireturn, 1) := by decide +kernel
theorem dX5_needsAreThere_0 : decode cX5_needsAreThere 0 = .ok (.iconst 0, 1) := by decide +kernel
theorem dX5_needsAreThere_1 : decode cX5_needsAreThere 1 = .ok (.istore_n 1, 1) := by decide +kernel
theorem dX5_needsAreThere_2 : decode cX5_needsAreThere 2 = .ok (.iload_n 1, 1) := by decide +kernel
theorem dX5_needsAreThere_3 : decode cX5_needsAreThere 3 = .ok (.aload_n 0, 1) := by decide +kernel
theorem dX5_needsAreThere_4 : decode cX5_needsAreThere 4 = .ok (.getfield 18, 3) := by decide +kernel
theorem dX5_needsAreThere_7 : decode cX5_needsAreThere 7 = .ok (.invokevirtual 36, 3) := by decide +kernel
theorem dX5_needsAreThere_10 : decode cX5_needsAreThere 10 = .ok (.if_icmp .ge 42, 3) := by decide +kernel
theorem dX5_needsAreThere_13 : decode cX5_needsAreThere 13 = .ok (.aload_n 0, 1) := by decide +kernel
theorem dX5_needsAreThere_14 : decode cX5_needsAreThere 14 = .ok (.getfield 9, 3) := by decide +kernel
theorem dX5_needsAreThere_17 : decode cX5_needsAreThere 17 = .ok (.aload_n 0, 1) := by decide +kernel
theorem dX5_needsAreThere_18 : decode cX5_needsAreThere 18 = .ok (.getfield 18, 3) := by decide +kernel
theorem dX5_needsAreThere_21 : decode cX5_needsAreThere 21 = .ok (.iload_n 1, 1) := by decide +kernel
theorem dX5_needsAreThere_22 : decode cX5_needsAreThere 22 = .ok (.invokevirtual 91, 3) := by decide +kernel
theorem dX5_needsAreThere_25 : decode cX5_needsAreThere 25 = .ok (.invokevirtual 94, 3) := by decide +kernel
theorem dX5_needsAreThere_28 : decode cX5_needsAreThere 28 = .ok (.istore_n 2, 1) := by decide +kernel
theorem dX5_needsAreThere_29 : decode cX5_needsAreThere 29 = .ok (.iload_n 2, 1) := by decide +kernel
theorem dX5_needsAreThere_30 : decode cX5_needsAreThere 30 = .ok (.ifCond .eq 16, 3) := by decide +kernel
theorem dX5_needsAreThere_33 : decode cX5_needsAreThere 33 = .ok (.aload_n 0, 1) := by decide +kernel
theorem dX5_needsAreThere_34 : decode cX5_needsAreThere 34 = .ok (.getfield 18, 3) := by decide +kernel
theorem dX5_needsAreThere_37 : decode cX5_needsAreThere 37 = .ok (.iload_n 2, 1) := by decide +kernel
theorem dX5_needsAreThere_38 : decode cX5_needsAreThere 38 = .ok (.invokevirtual 73, 3) := by decide +kernel
theorem dX5_needsAreThere_41 : decode cX5_needsAreThere 41 = .ok (.ifCond .ne 5, 3) := by decide +kernel
theorem dX5_needsAreThere_44 : decode cX5_needsAreThere 44 = .ok (.iconst 0, 1) := by decide +kernel
theorem dX5_needsAreThere_45 : decode cX5_needsAreThere 45 = .ok (.ireturn, 1) := by decide +kernel
theorem dX5_needsAreThere_46 : decode cX5_needsAreThere 46 = .ok (.iinc 1 1, 3) := by decide +kernel
theorem dX5_needsAreThere_49 : decode cX5_needsAreThere 49 = .ok (.goto (-47), 3) := by decide +kernel
theorem dX5_needsAreThere_52 : decode cX5_needsAreThere 52 = .ok (.iconst 1, 1) := by decide +kernel
theorem dX5_needsAreThere_53 : decode cX5_needsAreThere 53 = .ok (.ireturn, 1) := by decide +kernel
theorem dX6_init_0 : decode cX6_init 0 = .ok (.aload_n 0, 1) := by decide +kernel
theorem dX6_init_1 : decode cX6_init 1 = .ok (.invokespecial 1, 3) := by decide +kernel
theorem dX6_init_4 : decode cX6_init 4 = .ok (.aload_n 0, 1) := by decide +kernel
theorem dX6_init_5 : decode cX6_init 5 = .ok (.new 7, 3) := by decide +kernel
theorem dX6_init_8 : decode cX6_init 8 = .ok (.dup, 1) := by decide +kernel
theorem dX6_init_9 : decode cX6_init 9 = .ok (.iconst 0, 1) := by decide +kernel
theorem dX6_init_10 : decode cX6_init 10 = .ok (.iload_n 1, 1) := by decide +kernel
theorem dX6_init_11 : decode cX6_init 11 = .ok (.iconst 2, 1) := by decide +kernel
theorem dX6_init_12 : decode cX6_init 12 = .ok (.invokestatic 11, 3) := by decide +kernel
theorem dX6_init_15 : decode cX6_init 15 = .ok (.invokestatic 17, 3) := by decide +kernel
theorem dX6_init_18 : decode cX6_init 18 = .ok (.invokespecial 20, 3) := by decide +kernel
theorem dX6_init_21 : decode cX6_init 21 = .ok (.putfield 23, 3) := by decide +kernel
theorem dX6_init_24 : decode cX6_init 24 = .ok (.aload_n 0, 1) := by decide +kernel
theorem dX6_init_25 : decode cX6_init 25 = .ok (.new 27, 3) := by decide +kernel
theorem dX6_init_28 : decode cX6_init 28 = .ok (.dup, 1) := by decide +kernel
theorem dX6_init_29 : decode cX6_init 29 = .ok (.invokespecial 29, 3) := by decide +kernel
theorem dX6_init_32 : decode cX6_init 32 = .ok (.putfield 30, 3) := by decide +kernel
theorem dX6_init_35 : decode cX6_init 35 = .ok (.aload_n 0, 1) := by decide +kernel
theorem dX6_init_36 : decode cX6_init 36 = .ok (.new 34, 3) := by decide +kernel
theorem dX6_init_39 : decode cX6_init 39 = .ok (.dup, 1) := by decide +kernel
theorem dX6_init_40 : decode cX6_init 40 = .ok (.invokespecial 36, 3) := by decide +kernel
theorem dX6_init_43 : decode cX6_init 43 = .ok (.putfield 37, 3) := by decide +kernel
theorem dX6_init_46 : decode cX6_init 46 = .ok (.aload_n 0, 1) := by decide +kernel
theorem dX6_init_47 : decode cX6_init 47 = .ok (.new 41, 3) := by decide +kernel
theorem dX6_init_50 : decode cX6_init 50 = .ok (.dup, 1) := by decide +kernel
theorem dX6_init_51 : decode cX6_init 51 = .ok (.sipush 420, 3) := by decide +kernel
theorem dX6_init_54 : decode cX6_init 54 = .ok (.invokespecial 43, 3) := by decide +kernel
theorem dX6_init_57 : decode cX6_init 57 = .ok (.putfield 44, 3) := by decide +kernel
theorem dX6_init_60 : decode cX6_init 60 = .ok (.aload_n 0, 1) := by decide +kernel
theorem dX6_init_61 : decode cX6_init 61 = .ok (.new 41, 3) := by decide +kernel
theorem dX6_init_64 : decode cX6_init 64 = .ok (.dup, 1) := by decide +kernel
theorem dX6_init_65 : decode cX6_init 65 = .ok (.sipush 420, 3) := by decide +kernel
theorem dX6_init_68 : decode cX6_init 68 = .ok (.invokespecial 43, 3) := by decide +kernel
theorem dX6_init_71 : decode cX6_init 71 = .ok (.putfield 48, 3) := by decide +kernel
theorem dX6_init_74 : decode cX6_init 74 = .ok (.aload_n 0, 1) := by decide +kernel
theorem dX6_init_75 : decode cX6_init 75 = .ok (.new 41, 3) := by decide +kernel
theorem dX6_init_78 : decode cX6_init 78 = .ok (.dup, 1) := by decide +kernel
theorem dX6_init_79 : decode cX6_init 79 = .ok (.bipush 60, 2) := by decide +kernel
theorem dX6_init_81 : decode cX6_init 81 = .ok (.invokespecial 43, 3) := by decide +kernel
theorem dX6_init_84 : decode cX6_init 84 = .ok (.putfield 51, 3) := by decide +kernel
theorem dX6_init_87 : decode cX6_init 87 = .ok (.aload_n 0, 1) := by decide +kernel
theorem dX6_init_88 : decode cX6_init 88 = .ok (.new 41, 3) := by decide +kernel
theorem dX6_init_91 : decode cX6_init 91 = .ok (.dup, 1) := by decide +kernel
theorem dX6_init_92 : decode cX6_init 92 = .ok (.bipush 105, 2) := by decide +kernel
theorem dX6_init_94 : decode cX6_init 94 = .ok (.invokespecial 43, 3) := by decide +kernel
theorem dX6_init_97 : decode cX6_init 97 = .ok (.putfield 54, 3) := by decide +kernel
theorem dX6_init_100 : decode cX6_init 100 = .ok (.aload_n 0, 1) := by decide +kernel
theorem dX6_init_101 : decode cX6_init 101 = .ok (.new 57, 3) := by decide +kernel
theorem dX6_init_104 : decode cX6_init 104 = .ok (.dup, 1) := by decide +kernel
theorem dX6_init_105 : decode cX6_init 105 = .ok (.aload_n 0, 1) := by decide +kernel
theorem dX6_init_106 : decode cX6_init 106 = .ok (.getfield 30, 3) := by decide +kernel
theorem dX6_init_109 : decode cX6_init 109 = .ok (.invokespecial 59, 3) := by decide +kernel
theorem dX6_init_112 : decode cX6_init 112 = .ok (.putfield 62, 3) := by decide +kernel
theorem dX6_init_115 : decode cX6_init 115 = .ok (.aload_n 0, 1) := by decide +kernel
theorem dX6_init_116 : decode cX6_init 116 = .ok (.new 66, 3) := by decide +kernel
theorem dX6_init_119 : decode cX6_init 119 = .ok (.dup, 1) := by decide +kernel
theorem dX6_init_120 : decode cX6_init 120 = .ok (.invokespecial 68, 3) := by decide +kernel
theorem dX6_init_123 : decode cX6_init 123 = .ok (.putfield 69, 3) := by decide +kernel
theorem dX6_init_126 : decode cX6_init 126 = .ok (.aload_n 0, 1) := by decide +kernel
theorem dX6_init_127 : decode cX6_init 127 = .ok (.iconst 0, 1) := by decide +kernel
theorem dX6_init_128 : decode cX6_init 128 = .ok (.putfield 73, 3) := by decide +kernel
theorem dX6_init_131 : decode cX6_init 131 = .ok (.aload_n 0, 1) := by decide +kernel
theorem dX6_init_132 : decode cX6_init 132 = .ok (.iconst 0, 1) := by decide +kernel
theorem dX6_init_133 : decode cX6_init 133 = .ok (.putfield 77, 3) := by decide +kernel
theorem dX6_init_136 : decode cX6_init 136 = .ok (.return_, 1) := by decide +kernel
theorem dX6_prefix_0 : decode cX6_prefix 0 = .ok (.iload_n 1, 1) := by decide +kernel
theorem dX6_prefix_1 : decode cX6_prefix 1 = .ok (.invokestatic 80, 3) := by decide +kernel
theorem dX6_prefix_4 : decode cX6_prefix 4 = .ok (.ifCond .eq 14, 3) := by decide +kernel
theorem dX6_prefix_7 : decode cX6_prefix 7 = .ok (.iload_n 2, 1) := by decide +kernel
theorem dX6_prefix_8 : decode cX6_prefix 8 = .ok (.iconst 1, 1) := by decide +kernel
theorem dX6_prefix_9 : decode cX6_prefix 9 = .ok (.if_icmp .lt 9, 3) := by decide +kernel
theorem dX6_prefix_12 : decode cX6_prefix 12 = .ok (.iload_n 2, 1) := by decide +kernel
theorem dX6_prefix_13 : decode cX6_prefix 13 = .ok (.bipush 12, 2) := by decide +kernel
theorem dX6_prefix_15 : decode cX6_prefix 15 = .ok (.if_icmp .le 13, 3) := by decide +kernel
theorem dX6_prefix_18 : decode cX6_prefix 18 = .ok (.new 84, 3) := by decide +kernel
theorem dX6_prefix_21 : decode cX6_prefix 21 = .ok (.dup, 1) := by decide +kernel
theorem dX6_prefix_22 : decode cX6_prefix 22 = .ok (.ldc 86, 2) := by decide +kernel
theorem dX6_prefix_24 : decode cX6_prefix 24 = .ok (.invokespecial 88, 3) := by decide +kernel
theorem dX6_prefix_27 : decode cX6_prefix 27 = .ok (.athrow, 1) := by decide +kernel
theorem dX6_prefix_28 : decode cX6_prefix 28 = .ok (.iload 4, 2) := by decide +kernel
theorem dX6_prefix_30 : decode cX6_prefix 30 = .ok (.iconst (-1), 1) := by decide +kernel
theorem dX6_prefix_31 : decode cX6_prefix 31 = .ok (.if_icmp .eq 21, 3) := by decide +kernel
theorem dX6_prefix_34 : decode cX6_prefix 34 = .ok (.iload 4, 2) := by decide +kernel
theorem dX6_prefix_36 : decode cX6_prefix 36 = .ok (.invokestatic 91, 3) := by decide +kernel
theorem dX6_prefix_39 : decode cX6_prefix 39 = .ok (.ifCond .ne 13, 3) := by decide +kernel
theorem dX6_prefix_42 : decode cX6_prefix 42 = .ok (.new 84, 3) := by decide +kernel
theorem dX6_prefix_45 : decode cX6_prefix 45 = .ok (.dup, 1) := by decide +kernel
theorem dX6_prefix_46 : decode cX6_prefix 46 = .ok (.ldc 94, 2) := by decide +kernel
theorem dX6_prefix_48 : decode cX6_prefix 48 = .ok (.invokespecial 88, 3) := by decide +kernel
theorem dX6_prefix_51 : decode cX6_prefix 51 = .ok (.athrow, 1) := by decide +kernel
theorem dX6_prefix_52 : decode cX6_prefix 52 = .ok (.aload_n 0, 1) := by decide +kernel
theorem dX6_prefix_53 : decode cX6_prefix 53 = .ok (.getfield 30, 3) := by decide +kernel
theorem dX6_prefix_56 : decode cX6_prefix 56 = .ok (.iload_n 1, 1) := by decide +kernel
theorem dX6_prefix_57 : decode cX6_prefix 57 = .ok (.invokevirtual 96, 3) := by decide +kernel
theorem dX6_prefix_60 : decode cX6_prefix 60 = .ok (.ifCond .ne 25, 3) := by decide +kernel
theorem dX6_prefix_63 : decode cX6_prefix 63 = .ok (.aload_n 0, 1) := by decide +kernel
theorem dX6_prefix_64 : decode cX6_prefix 64 = .ok (.getfield 30, 3) := by decide +kernel
theorem dX6_prefix_67 : decode cX6_prefix 67 = .ok (.invokevirtual 99, 3) := by decide +kernel
theorem dX6_prefix_70 : decode cX6_prefix 70 = .ok (.bipush 16, 2) := by decide +kernel
theorem dX6_prefix_72 : decode cX6_prefix 72 = .ok (.if_icmp .lt 13, 3) := by decide +kernel
theorem dX6_prefix_75 : decode cX6_prefix 75 = .ok (.new 103, 3) := by decide +kernel
theorem dX6_prefix_78 : decode cX6_prefix 78 = .ok (.dup, 1) := by decide +kernel
theorem dX6_prefix_79 : decode cX6_prefix 79 = .ok (.ldc 105, 2) := by decide +kernel
theorem dX6_prefix_81 : decode cX6_prefix 81 = .ok (.invokespecial 107, 3) := by decide +kernel
theorem dX6_prefix_84 : decode cX6_prefix 84 = .ok (.athrow, 1) := by decide +kernel
theorem dX6_prefix_85 : decode cX6_prefix 85 = .ok (.aload_n 0, 1) := by decide +kernel
theorem dX6_prefix_86 : decode cX6_prefix 86 = .ok (.getfield 30, 3) := by decide +kernel
theorem dX6_prefix_89 : decode cX6_prefix 89 = .ok (.iload_n 1, 1) := by decide +kernel
theorem dX6_prefix_90 : decode cX6_prefix 90 = .ok (.iload_n 2, 1) := by decide +kernel
theorem dX6_prefix_91 : decode cX6_prefix 91 = .ok (.iload_n 3, 1) := by decide +kernel
theorem dX6_prefix_92 : decode cX6_prefix 92 = .ok (.iload 4, 2) := by decide +kernel
theorem dX6_prefix_94 : decode cX6_prefix 94 = .ok (.invokevirtual 108, 3) := by decide +kernel
theorem dX6_prefix_97 : decode cX6_prefix 97 = .ok (.aload_n 0, 1) := by decide +kernel
theorem dX6_prefix_98 : decode cX6_prefix 98 = .ok (.getfield 30, 3) := by decide +kernel
theorem dX6_prefix_101 : decode cX6_prefix 101 = .ok (.invokevirtual 99, 3) := by decide +kernel
theorem dX6_prefix_104 : decode cX6_prefix 104 = .ok (.ireturn, 1) := by decide +kernel
theorem dX6_needs_0 : decode cX6_needs 0 = .ok (.aload_n 0, 1) := by decide +kernel
theorem dX6_needs_1 : decode cX6_needs 1 = .ok (.getfield 30, 3) := by decide +kernel
theorem dX6_needs_4 : decode cX6_needs 4 = .ok (.iload_n 1, 1) := by decide +kernel
theorem dX6_needs_5 : decode cX6_needs 5 = .ok (.invokevirtual 96, 3) := by decide +kernel
theorem dX6_needs_8 : decode cX6_needs 8 = .ok (.ifCond .ne 13, 3) := by decide +kernel
theorem dX6_needs_11 : decode cX6_needs 11 = .ok (.new 112, 3) := by decide +kernel
theorem dX6_needs_14 : decode cX6_needs 14 = .ok (.dup, 1) := by decide +kernel
theorem dX6_needs_15 : decode cX6_needs 15 = .ok (.ldc 114, 2) := by decide +kernel
theorem dX6_needs_17 : decode cX6_needs 17 = .ok (.invokespecial 116, 3) := by decide +kernel
theorem dX6_needs_20 : decode cX6_needs 20 = .ok (.athrow, 1) := by decide +kernel
theorem dX6_needs_21 : decode cX6_needs 21 = .ok (.iload_n 2, 1) := by decide +kernel
theorem dX6_needs_22 : decode cX6_needs 22 = .ok (.iload_n 1, 1) := by decide +kernel
theorem dX6_needs_23 : decode cX6_needs 23 = .ok (.if_icmp .eq 14, 3) := by decide +kernel
theorem dX6_needs_26 : decode cX6_needs 26 = .ok (.iload_n 2, 1) := by decide +kernel
theorem dX6_needs_27 : decode cX6_needs 27 = .ok (.ifCond .eq 20, 3) := by decide +kernel
theorem dX6_needs_30 : decode cX6_needs 30 = .ok (.iload_n 2, 1) := by decide +kernel
theorem dX6_needs_31 : decode cX6_needs 31 = .ok (.invokestatic 80, 3) := by decide +kernel
theorem dX6_needs_34 : decode cX6_needs 34 = .ok (.ifCond .ne 13, 3) := by decide +kernel
theorem dX6_needs_37 : decode cX6_needs 37 = .ok (.new 84, 3) := by decide +kernel
theorem dX6_needs_40 : decode cX6_needs 40 = .ok (.dup, 1) := by decide +kernel
theorem dX6_needs_41 : decode cX6_needs 41 = .ok (.ldc 117, 2) := by decide +kernel
theorem dX6_needs_43 : decode cX6_needs 43 = .ok (.invokespecial 88, 3) := by decide +kernel
theorem dX6_needs_46 : decode cX6_needs 46 = .ok (.athrow, 1) := by decide +kernel
theorem dX6_needs_47 : decode cX6_needs 47 = .ok (.aload_n 0, 1) := by decide +kernel
theorem dX6_needs_48 : decode cX6_needs 48 = .ok (.getfield 30, 3) := by decide +kernel
theorem dX6_needs_51 : decode cX6_needs 51 = .ok (.iload_n 1, 1) := by decide +kernel
theorem dX6_needs_52 : decode cX6_needs 52 = .ok (.iload_n 2, 1) := by decide +kernel
theorem dX6_needs_53 : decode cX6_needs 53 = .ok (.invokevirtual 119, 3) := by decide +kernel
theorem dX6_needs_56 : decode cX6_needs 56 = .ok (.return_, 1) := by decide +kernel
theorem dX6_begin_0 : decode cX6_begin 0 = .ok (.aload_n 0, 1) := by decide +kernel
theorem dX6_begin_1 : decode cX6_begin 1 = .ok (.getfield 37, 3) := by decide +kernel
theorem dX6_begin_4 : decode cX6_begin 4 = .ok (.invokevirtual 123, 3) := by decide +kernel
theorem dX6_begin_7 : decode cX6_begin 7 = .ok (.return_, 1) := by decide +kernel
theorem dX6_field_0 : decode cX6_field 0 = .ok (.aload_n 0, 1) := by decide +kernel
theorem dX6_field_1 : decode cX6_field 1 = .ok (.getfield 30, 3) := by decide +kernel
theorem dX6_field_4 : decode cX6_field 4 = .ok (.iload_n 1, 1) := by decide +kernel
theorem dX6_field_5 : decode cX6_field 5 = .ok (.invokevirtual 96, 3) := by decide +kernel
theorem dX6_field_8 : decode cX6_field 8 = .ok (.ifCond .ne 13, 3) := by decide +kernel
theorem dX6_field_11 : decode cX6_field 11 = .ok (.new 112, 3) := by decide +kernel
theorem dX6_field_14 : decode cX6_field 14 = .ok (.dup, 1) := by decide +kernel
theorem dX6_field_15 : decode cX6_field 15 = .ok (.ldc 114, 2) := by decide +kernel
theorem dX6_field_17 : decode cX6_field 17 = .ok (.invokespecial 116, 3) := by decide +kernel
theorem dX6_field_20 : decode cX6_field 20 = .ok (.athrow, 1) := by decide +kernel
theorem dX6_field_21 : decode cX6_field 21 = .ok (.iload 4, 2) := by decide +kernel
theorem dX6_field_23 : decode cX6_field 23 = .ok (.iconst 1, 1) := by decide +kernel
theorem dX6_field_24 : decode cX6_field 24 = .ok (.if_icmp .lt 25, 3) := by decide +kernel
theorem dX6_field_27 : decode cX6_field 27 = .ok (.iload 4, 2) := by decide +kernel
theorem dX6_field_29 : decode cX6_field 29 = .ok (.bipush 12, 2) := by decide +kernel
theorem dX6_field_31 : decode cX6_field 31 = .ok (.if_icmp .gt 18, 3) := by decide +kernel
theorem dX6_field_34 : decode cX6_field 34 = .ok (.lload_n 2, 1) := by decide +kernel
theorem dX6_field_35 : decode cX6_field 35 = .ok (.lconst 0, 1) := by decide +kernel
theorem dX6_field_36 : decode cX6_field 36 = .ok (.lcmp, 1) := by decide +kernel
theorem dX6_field_37 : decode cX6_field 37 = .ok (.ifCond .lt 12, 3) := by decide +kernel
theorem dX6_field_40 : decode cX6_field 40 = .ok (.lload_n 2, 1) := by decide +kernel
theorem dX6_field_41 : decode cX6_field 41 = .ok (.invokestatic 126, 3) := by decide +kernel
theorem dX6_field_44 : decode cX6_field 44 = .ok (.iload 4, 2) := by decide +kernel
theorem dX6_field_46 : decode cX6_field 46 = .ok (.if_icmp .le 13, 3) := by decide +kernel
theorem dX6_field_49 : decode cX6_field 49 = .ok (.new 84, 3) := by decide +kernel
theorem dX6_field_52 : decode cX6_field 52 = .ok (.dup, 1) := by decide +kernel
theorem dX6_field_53 : decode cX6_field 53 = .ok (.ldc 130, 2) := by decide +kernel
theorem dX6_field_55 : decode cX6_field 55 = .ok (.invokespecial 88, 3) := by decide +kernel
theorem dX6_field_58 : decode cX6_field 58 = .ok (.athrow, 1) := by decide +kernel
theorem dX6_field_59 : decode cX6_field 59 = .ok (.aload_n 0, 1) := by decide +kernel
theorem dX6_field_60 : decode cX6_field 60 = .ok (.getfield 30, 3) := by decide +kernel
theorem dX6_field_63 : decode cX6_field 63 = .ok (.iload_n 1, 1) := by decide +kernel
theorem dX6_field_64 : decode cX6_field 64 = .ok (.iload 4, 2) := by decide +kernel
theorem dX6_field_66 : decode cX6_field 66 = .ok (.invokevirtual 132, 3) := by decide +kernel
theorem dX6_field_69 : decode cX6_field 69 = .ok (.ifCond .ne 13, 3) := by decide +kernel
theorem dX6_field_72 : decode cX6_field 72 = .ok (.new 84, 3) := by decide +kernel
theorem dX6_field_75 : decode cX6_field 75 = .ok (.dup, 1) := by decide +kernel
theorem dX6_field_76 : decode cX6_field 76 = .ok (.ldc 136, 2) := by decide +kernel
theorem dX6_field_78 : decode cX6_field 78 = .ok (.invokespecial 88, 3) := by decide +kernel
theorem dX6_field_81 : decode cX6_field 81 = .ok (.athrow, 1) := by decide +kernel
theorem dX6_field_82 : decode cX6_field 82 = .ok (.aload_n 0, 1) := by decide +kernel
theorem dX6_field_83 : decode cX6_field 83 = .ok (.getfield 37, 3) := by decide +kernel
theorem dX6_field_86 : decode cX6_field 86 = .ok (.iload_n 1, 1) := by decide +kernel
theorem dX6_field_87 : decode cX6_field 87 = .ok (.invokevirtual 138, 3) := by decide +kernel
theorem dX6_field_90 : decode cX6_field 90 = .ok (.ifCond .ne 15, 3) := by decide +kernel
theorem dX6_field_93 : decode cX6_field 93 = .ok (.aload_n 0, 1) := by decide +kernel
theorem dX6_field_94 : decode cX6_field 94 = .ok (.getfield 37, 3) := by decide +kernel
theorem dX6_field_97 : decode cX6_field 97 = .ok (.invokevirtual 139, 3) := by decide +kernel
theorem dX6_field_100 : decode cX6_field 100 = .ok (.bipush 6, 2) := by decide +kernel
theorem dX6_field_102 : decode cX6_field 102 = .ok (.if_icmp .lt 13, 3) := by decide +kernel
theorem dX6_field_105 : decode cX6_field 105 = .ok (.new 140, 3) := by decide +kernel
theorem dX6_field_108 : decode cX6_field 108 = .ok (.dup, 1) := by decide +kernel
theorem dX6_field_109 : decode cX6_field 109 = .ok (.ldc 142, 2) := by decide +kernel
theorem dX6_field_111 : decode cX6_field 111 = .ok (.invokespecial 144, 3) := by decide +kernel
theorem dX6_field_114 : decode cX6_field 114 = .ok (.athrow, 1) := by decide +kernel
theorem dX6_field_115 : decode cX6_field 115 = .ok (.aload_n 0, 1) := by decide +kernel
theorem dX6_field_116 : decode cX6_field 116 = .ok (.getfield 37, 3) := by decide +kernel
theorem dX6_field_119 : decode cX6_field 119 = .ok (.iload_n 1, 1) := by decide +kernel
theorem dX6_field_120 : decode cX6_field 120 = .ok (.iload 4, 2) := by decide +kernel
theorem dX6_field_122 : decode cX6_field 122 = .ok (.lload_n 2, 1) := by decide +kernel
theorem dX6_field_123 : decode cX6_field 123 = .ok (.invokevirtual 145, 3) := by decide +kernel
theorem dX6_field_126 : decode cX6_field 126 = .ok (.aload_n 0, 1) := by decide +kernel
theorem dX6_field_127 : decode cX6_field 127 = .ok (.getfield 37, 3) := by decide +kernel
theorem dX6_field_130 : decode cX6_field 130 = .ok (.invokevirtual 139, 3) := by decide +kernel
theorem dX6_field_133 : decode cX6_field 133 = .ok (.ireturn, 1) := by decide +kernel
theorem dX6_make_0 : decode cX6_make 0 = .ok (.aload_n 0, 1) := by decide +kernel
theorem dX6_make_1 : decode cX6_make 1 = .ok (.getfield 37, 3) := by decide +kernel
theorem dX6_make_4 : decode cX6_make 4 = .ok (.invokevirtual 139, 3) := by decide +kernel
theorem dX6_make_7 : decode cX6_make 7 = .ok (.ifCond .ne 13, 3) := by decide +kernel
theorem dX6_make_10 : decode cX6_make 10 = .ok (.new 140, 3) := by decide +kernel
theorem dX6_make_13 : decode cX6_make 13 = .ok (.dup, 1) := by decide +kernel
theorem dX6_make_14 : decode cX6_make 14 = .ok (.ldc 149, 2) := by decide +kernel
theorem dX6_make_16 : decode cX6_make 16 = .ok (.invokespecial 144, 3) := by decide +kernel
theorem dX6_make_19 : decode cX6_make 19 = .ok (.athrow, 1) := by decide +kernel
theorem dX6_make_20 : decode cX6_make 20 = .ok (.aload_n 0, 1) := by decide +kernel
theorem dX6_make_21 : decode cX6_make 21 = .ok (.invokevirtual 151, 3) := by decide +kernel
theorem dX6_make_24 : decode cX6_make 24 = .ok (.aload_n 0, 1) := by decide +kernel
theorem dX6_make_25 : decode cX6_make 25 = .ok (.getfield 54, 3) := by decide +kernel
theorem dX6_make_28 : decode cX6_make 28 = .ok (.invokevirtual 154, 3) := by decide +kernel
theorem dX6_make_31 : decode cX6_make 31 = .ok (.iconst 1, 1) := by decide +kernel
theorem dX6_make_32 : decode cX6_make 32 = .ok (.iadd, 1) := by decide +kernel
theorem dX6_make_33 : decode cX6_make 33 = .ok (.bipush 60, 2) := by decide +kernel
theorem dX6_make_35 : decode cX6_make 35 = .ok (.if_icmp .le 13, 3) := by decide +kernel
theorem dX6_make_38 : decode cX6_make 38 = .ok (.new 103, 3) := by decide +kernel
theorem dX6_make_41 : decode cX6_make 41 = .ok (.dup, 1) := by decide +kernel
theorem dX6_make_42 : decode cX6_make 42 = .ok (.ldc 155, 2) := by decide +kernel
theorem dX6_make_44 : decode cX6_make 44 = .ok (.invokespecial 107, 3) := by decide +kernel
theorem dX6_make_47 : decode cX6_make 47 = .ok (.athrow, 1) := by decide +kernel
theorem dX6_make_48 : decode cX6_make 48 = .ok (.aload_n 0, 1) := by decide +kernel
theorem dX6_make_49 : decode cX6_make 49 = .ok (.getfield 54, 3) := by decide +kernel
theorem dX6_make_52 : decode cX6_make 52 = .ok (.aload_n 0, 1) := by decide +kernel
theorem dX6_make_53 : decode cX6_make 53 = .ok (.getfield 54, 3) := by decide +kernel
theorem dX6_make_56 : decode cX6_make 56 = .ok (.aload_n 0, 1) := by decide +kernel
theorem dX6_make_57 : decode cX6_make 57 = .ok (.getfield 54, 3) := by decide +kernel
theorem dX6_make_60 : decode cX6_make 60 = .ok (.invokevirtual 154, 3) := by decide +kernel
theorem dX6_make_63 : decode cX6_make 63 = .ok (.invokestatic 157, 3) := by decide +kernel
theorem dX6_make_66 : decode cX6_make 66 = .ok (.invokevirtual 161, 3) := by decide +kernel
theorem dX6_make_69 : decode cX6_make 69 = .ok (.aload_n 0, 1) := by decide +kernel
theorem dX6_make_70 : decode cX6_make 70 = .ok (.getfield 23, 3) := by decide +kernel
theorem dX6_make_73 : decode cX6_make 73 = .ok (.aload_n 0, 1) := by decide +kernel
theorem dX6_make_74 : decode cX6_make 74 = .ok (.getfield 54, 3) := by decide +kernel
theorem dX6_make_77 : decode cX6_make 77 = .ok (.aload_n 0, 1) := by decide +kernel
theorem dX6_make_78 : decode cX6_make 78 = .ok (.getfield 44, 3) := by decide +kernel
theorem dX6_make_81 : decode cX6_make 81 = .ok (.invokevirtual 163, 3) := by decide +kernel
theorem dX6_make_84 : decode cX6_make 84 = .ok (.aload_n 0, 1) := by decide +kernel
theorem dX6_make_85 : decode cX6_make 85 = .ok (.getfield 44, 3) := by decide +kernel
theorem dX6_make_88 : decode cX6_make 88 = .ok (.invokevirtual 154, 3) := by decide +kernel
theorem dX6_make_91 : decode cX6_make 91 = .ok (.ireturn, 1) := by decide +kernel
theorem dX6_module_0 : decode cX6_module 0 = .ok (.iload_n 1, 1) := by decide +kernel
theorem dX6_module_1 : decode cX6_module 1 = .ok (.ifCond .lt 14, 3) := by decide +kernel
theorem dX6_module_4 : decode cX6_module 4 = .ok (.iload_n 1, 1) := by decide +kernel
theorem dX6_module_5 : decode cX6_module 5 = .ok (.aload_n 0, 1) := by decide +kernel
theorem dX6_module_6 : decode cX6_module 6 = .ok (.getfield 44, 3) := by decide +kernel
theorem dX6_module_9 : decode cX6_module 9 = .ok (.invokevirtual 154, 3) := by decide +kernel
theorem dX6_module_12 : decode cX6_module 12 = .ok (.if_icmp .lt 13, 3) := by decide +kernel
theorem dX6_module_15 : decode cX6_module 15 = .ok (.new 167, 3) := by decide +kernel
theorem dX6_module_18 : decode cX6_module 18 = .ok (.dup, 1) := by decide +kernel
theorem dX6_module_19 : decode cX6_module 19 = .ok (.ldc 169, 2) := by decide +kernel
theorem dX6_module_21 : decode cX6_module 21 = .ok (.invokespecial 171, 3) := by decide +kernel
theorem dX6_module_24 : decode cX6_module 24 = .ok (.athrow, 1) := by decide +kernel
theorem dX6_module_25 : decode cX6_module 25 = .ok (.aload_n 0, 1) := by decide +kernel
theorem dX6_module_26 : decode cX6_module 26 = .ok (.getfield 44, 3) := by decide +kernel
theorem dX6_module_29 : decode cX6_module 29 = .ok (.iload_n 1, 1) := by decide +kernel
theorem dX6_module_30 : decode cX6_module 30 = .ok (.invokevirtual 172, 3) := by decide +kernel
theorem dX6_module_33 : decode cX6_module 33 = .ok (.ireturn, 1) := by decide +kernel
theorem dX6_clear_0 : decode cX6_clear 0 = .ok (.aload_n 0, 1) := by decide +kernel
theorem dX6_clear_1 : decode cX6_clear 1 = .ok (.getfield 48, 3) := by decide +kernel
theorem dX6_clear_4 : decode cX6_clear 4 = .ok (.invokevirtual 176, 3) := by decide +kernel
theorem dX6_clear_7 : decode cX6_clear 7 = .ok (.aload_n 0, 1) := by decide +kernel
theorem dX6_clear_8 : decode cX6_clear 8 = .ok (.getfield 51, 3) := by decide +kernel
theorem dX6_clear_11 : decode cX6_clear 11 = .ok (.invokevirtual 176, 3) := by decide +kernel
theorem dX6_clear_14 : decode cX6_clear 14 = .ok (.aload_n 0, 1) := by decide +kernel
theorem dX6_clear_15 : decode cX6_clear 15 = .ok (.getfield 62, 3) := by decide +kernel
theorem dX6_clear_18 : decode cX6_clear 18 = .ok (.invokevirtual 177, 3) := by decide +kernel
theorem dX6_clear_21 : decode cX6_clear 21 = .ok (.aload_n 0, 1) := by decide +kernel
theorem dX6_clear_22 : decode cX6_clear 22 = .ok (.iconst 0, 1) := by decide +kernel
theorem dX6_clear_23 : decode cX6_clear 23 = .ok (.putfield 73, 3) := by decide +kernel
theorem dX6_clear_26 : decode cX6_clear 26 = .ok (.return_, 1) := by decide +kernel
theorem dX6_read_0 : decode cX6_read 0 = .ok (.iload_n 1, 1) := by decide +kernel
theorem dX6_read_1 : decode cX6_read 1 = .ok (.ifCond .lt 8, 3) := by decide +kernel
theorem dX6_read_4 : decode cX6_read 4 = .ok (.iload_n 1, 1) := by decide +kernel
theorem dX6_read_5 : decode cX6_read 5 = .ok (.iconst 2, 1) := by decide +kernel
theorem dX6_read_6 : decode cX6_read 6 = .ok (.if_icmp .le 13, 3) := by decide +kernel
theorem dX6_read_9 : decode cX6_read 9 = .ok (.new 84, 3) := by decide +kernel
theorem dX6_read_12 : decode cX6_read 12 = .ok (.dup, 1) := by decide +kernel
theorem dX6_read_13 : decode cX6_read 13 = .ok (.ldc 180, 2) := by decide +kernel
theorem dX6_read_15 : decode cX6_read 15 = .ok (.invokespecial 88, 3) := by decide +kernel
theorem dX6_read_18 : decode cX6_read 18 = .ok (.athrow, 1) := by decide +kernel
theorem dX6_read_19 : decode cX6_read 19 = .ok (.aload_n 0, 1) := by decide +kernel
theorem dX6_read_20 : decode cX6_read 20 = .ok (.getfield 48, 3) := by decide +kernel
theorem dX6_read_23 : decode cX6_read 23 = .ok (.invokevirtual 182, 3) := by decide +kernel
theorem dX6_read_26 : decode cX6_read 26 = .ok (.ifCond .eq 13, 3) := by decide +kernel
theorem dX6_read_29 : decode cX6_read 29 = .ok (.new 103, 3) := by decide +kernel
theorem dX6_read_32 : decode cX6_read 32 = .ok (.dup, 1) := by decide +kernel
theorem dX6_read_33 : decode cX6_read 33 = .ok (.ldc 186, 2) := by decide +kernel
theorem dX6_read_35 : decode cX6_read 35 = .ok (.invokespecial 107, 3) := by decide +kernel
theorem dX6_read_38 : decode cX6_read 38 = .ok (.athrow, 1) := by decide +kernel
theorem dX6_read_39 : decode cX6_read 39 = .ok (.aload_n 0, 1) := by decide +kernel
theorem dX6_read_40 : decode cX6_read 40 = .ok (.getfield 48, 3) := by decide +kernel
theorem dX6_read_43 : decode cX6_read 43 = .ok (.iload_n 1, 1) := by decide +kernel
theorem dX6_read_44 : decode cX6_read 44 = .ok (.invokevirtual 161, 3) := by decide +kernel
theorem dX6_read_47 : decode cX6_read 47 = .ok (.aload_n 0, 1) := by decide +kernel
theorem dX6_read_48 : decode cX6_read 48 = .ok (.getfield 48, 3) := by decide +kernel
theorem dX6_read_51 : decode cX6_read 51 = .ok (.invokevirtual 154, 3) := by decide +kernel
theorem dX6_read_54 : decode cX6_read 54 = .ok (.ireturn, 1) := by decide +kernel
theorem dX6_typed_0 : decode cX6_typed 0 = .ok (.iload_n 1, 1) := by decide +kernel
theorem dX6_typed_1 : decode cX6_typed 1 = .ok (.ifCond .lt 9, 3) := by decide +kernel
theorem dX6_typed_4 : decode cX6_typed 4 = .ok (.iload_n 1, 1) := by decide +kernel
theorem dX6_typed_5 : decode cX6_typed 5 = .ok (.bipush 10, 2) := by decide +kernel
theorem dX6_typed_7 : decode cX6_typed 7 = .ok (.if_icmp .le 13, 3) := by decide +kernel
theorem dX6_typed_10 : decode cX6_typed 10 = .ok (.new 84, 3) := by decide +kernel
theorem dX6_typed_13 : decode cX6_typed 13 = .ok (.dup, 1) := by decide +kernel
theorem dX6_typed_14 : decode cX6_typed 14 = .ok (.ldc 188, 2) := by decide +kernel
theorem dX6_typed_16 : decode cX6_typed 16 = .ok (.invokespecial 88, 3) := by decide +kernel
theorem dX6_typed_19 : decode cX6_typed 19 = .ok (.athrow, 1) := by decide +kernel
theorem dX6_typed_20 : decode cX6_typed 20 = .ok (.aload_n 0, 1) := by decide +kernel
theorem dX6_typed_21 : decode cX6_typed 21 = .ok (.getfield 51, 3) := by decide +kernel
theorem dX6_typed_24 : decode cX6_typed 24 = .ok (.invokevirtual 182, 3) := by decide +kernel
theorem dX6_typed_27 : decode cX6_typed 27 = .ok (.ifCond .eq 13, 3) := by decide +kernel
theorem dX6_typed_30 : decode cX6_typed 30 = .ok (.new 103, 3) := by decide +kernel
theorem dX6_typed_33 : decode cX6_typed 33 = .ok (.dup, 1) := by decide +kernel
theorem dX6_typed_34 : decode cX6_typed 34 = .ok (.ldc 190, 2) := by decide +kernel
theorem dX6_typed_36 : decode cX6_typed 36 = .ok (.invokespecial 107, 3) := by decide +kernel
theorem dX6_typed_39 : decode cX6_typed 39 = .ok (.athrow, 1) := by decide +kernel
theorem dX6_typed_40 : decode cX6_typed 40 = .ok (.aload_n 0, 1) := by decide +kernel
theorem dX6_typed_41 : decode cX6_typed 41 = .ok (.getfield 51, 3) := by decide +kernel
theorem dX6_typed_44 : decode cX6_typed 44 = .ok (.iload_n 1, 1) := by decide +kernel
theorem dX6_typed_45 : decode cX6_typed 45 = .ok (.invokevirtual 161, 3) := by decide +kernel
theorem dX6_typed_48 : decode cX6_typed 48 = .ok (.aload_n 0, 1) := by decide +kernel
theorem dX6_typed_49 : decode cX6_typed 49 = .ok (.getfield 51, 3) := by decide +kernel
theorem dX6_typed_52 : decode cX6_typed 52 = .ok (.invokevirtual 154, 3) := by decide +kernel
theorem dX6_typed_55 : decode cX6_typed 55 = .ok (.ireturn, 1) := by decide +kernel
theorem dX6_parse_0 : decode cX6_parse 0 = .ok (.aload_n 0, 1) := by decide +kernel
theorem dX6_parse_1 : decode cX6_parse 1 = .ok (.getfield 48, 3) := by decide +kernel
theorem dX6_parse_4 : decode cX6_parse 4 = .ok (.invokevirtual 154, 3) := by decide +kernel
theorem dX6_parse_7 : decode cX6_parse 7 = .ok (.ifCond .ne 13, 3) := by decide +kernel
theorem dX6_parse_10 : decode cX6_parse 10 = .ok (.new 140, 3) := by decide +kernel
theorem dX6_parse_13 : decode cX6_parse 13 = .ok (.dup, 1) := by decide +kernel
theorem dX6_parse_14 : decode cX6_parse 14 = .ok (.ldc 192, 2) := by decide +kernel
theorem dX6_parse_16 : decode cX6_parse 16 = .ok (.invokespecial 144, 3) := by decide +kernel
theorem dX6_parse_19 : decode cX6_parse 19 = .ok (.athrow, 1) := by decide +kernel
theorem dX6_parse_20 : decode cX6_parse 20 = .ok (.aload_n 0, 1) := by decide +kernel
theorem dX6_parse_21 : decode cX6_parse 21 = .ok (.getfield 62, 3) := by decide +kernel
theorem dX6_parse_24 : decode cX6_parse 24 = .ok (.invokevirtual 177, 3) := by decide +kernel
theorem dX6_parse_27 : decode cX6_parse 27 = .ok (.aload_n 0, 1) := by decide +kernel
theorem dX6_parse_28 : decode cX6_parse 28 = .ok (.getfield 23, 3) := by decide +kernel
theorem dX6_parse_31 : decode cX6_parse 31 = .ok (.aload_n 0, 1) := by decide +kernel
theorem dX6_parse_32 : decode cX6_parse 32 = .ok (.getfield 48, 3) := by decide +kernel
theorem dX6_parse_35 : decode cX6_parse 35 = .ok (.aload_n 0, 1) := by decide +kernel
theorem dX6_parse_36 : decode cX6_parse 36 = .ok (.getfield 54, 3) := by decide +kernel
theorem dX6_parse_39 : decode cX6_parse 39 = .ok (.invokevirtual 194, 3) := by decide +kernel
theorem dX6_parse_42 : decode cX6_parse 42 = .ok (.istore_n 1, 1) := by decide +kernel
theorem dX6_parse_43 : decode cX6_parse 43 = .ok (.aload_n 0, 1) := by decide +kernel
theorem dX6_parse_44 : decode cX6_parse 44 = .ok (.aload_n 0, 1) := by decide +kernel
theorem dX6_parse_45 : decode cX6_parse 45 = .ok (.getfield 23, 3) := by decide +kernel
theorem dX6_parse_48 : decode cX6_parse 48 = .ok (.invokevirtual 198, 3) := by decide +kernel
theorem dX6_parse_51 : decode cX6_parse 51 = .ok (.putfield 73, 3) := by decide +kernel
theorem dX6_parse_54 : decode cX6_parse 54 = .ok (.iload_n 1, 1) := by decide +kernel
theorem dX6_parse_55 : decode cX6_parse 55 = .ok (.ifCond .eq 17, 3) := by decide +kernel
theorem dX6_parse_58 : decode cX6_parse 58 = .ok (.aload_n 0, 1) := by decide +kernel
theorem dX6_parse_59 : decode cX6_parse 59 = .ok (.getfield 62, 3) := by decide +kernel
theorem dX6_parse_62 : decode cX6_parse 62 = .ok (.aload_n 0, 1) := by decide +kernel
theorem dX6_parse_63 : decode cX6_parse 63 = .ok (.getfield 54, 3) := by decide +kernel
theorem dX6_parse_66 : decode cX6_parse 66 = .ok (.invokevirtual 201, 3) := by decide +kernel
theorem dX6_parse_69 : decode cX6_parse 69 = .ok (.goto 4, 3) := by decide +kernel
theorem dX6_parse_72 : decode cX6_parse 72 = .ok (.iconst 0, 1) := by decide +kernel
theorem dX6_parse_73 : decode cX6_parse 73 = .ok (.ireturn, 1) := by decide +kernel
theorem dX6_parseTyped_0 : decode cX6_parseTyped 0 = .ok (.aload_n 0, 1) := by decide +kernel
theorem dX6_parseTyped_1 : decode cX6_parseTyped 1 = .ok (.getfield 51, 3) := by decide +kernel
theorem dX6_parseTyped_4 : decode cX6_parseTyped 4 = .ok (.invokevirtual 154, 3) := by decide +kernel
theorem dX6_parseTyped_7 : decode cX6_parseTyped 7 = .ok (.ifCond .ne 13, 3) := by decide +kernel
theorem dX6_parseTyped_10 : decode cX6_parseTyped 10 = .ok (.new 140, 3) := by decide +kernel
theorem dX6_parseTyped_13 : decode cX6_parseTyped 13 = .ok (.dup, 1) := by decide +kernel
theorem dX6_parseTyped_14 : decode cX6_parseTyped 14 = .ok (.ldc 205, 2) := by decide +kernel
theorem dX6_parseTyped_16 : decode cX6_parseTyped 16 = .ok (.invokespecial 144, 3) := by decide +kernel
theorem dX6_parseTyped_19 : decode cX6_parseTyped 19 = .ok (.athrow, 1) := by decide +kernel
theorem dX6_parseTyped_20 : decode cX6_parseTyped 20 = .ok (.aload_n 0, 1) := by decide +kernel
theorem dX6_parseTyped_21 : decode cX6_parseTyped 21 = .ok (.getfield 62, 3) := by decide +kernel
theorem dX6_parseTyped_24 : decode cX6_parseTyped 24 = .ok (.aload_n 0, 1) := by decide +kernel
theorem dX6_parseTyped_25 : decode cX6_parseTyped 25 = .ok (.getfield 51, 3) := by decide +kernel
theorem dX6_parseTyped_28 : decode cX6_parseTyped 28 = .ok (.invokevirtual 201, 3) := by decide +kernel
theorem dX6_parseTyped_31 : decode cX6_parseTyped 31 = .ok (.ireturn, 1) := by decide +kernel
theorem dX6_check_0 : decode cX6_check 0 = .ok (.aload_n 0, 1) := by decide +kernel
theorem dX6_check_1 : decode cX6_check 1 = .ok (.getfield 51, 3) := by decide +kernel
theorem dX6_check_4 : decode cX6_check 4 = .ok (.invokevirtual 154, 3) := by decide +kernel
theorem dX6_check_7 : decode cX6_check 7 = .ok (.ifCond .ne 13, 3) := by decide +kernel
theorem dX6_check_10 : decode cX6_check 10 = .ok (.new 140, 3) := by decide +kernel
theorem dX6_check_13 : decode cX6_check 13 = .ok (.dup, 1) := by decide +kernel
theorem dX6_check_14 : decode cX6_check 14 = .ok (.ldc 205, 2) := by decide +kernel
theorem dX6_check_16 : decode cX6_check 16 = .ok (.invokespecial 144, 3) := by decide +kernel
theorem dX6_check_19 : decode cX6_check 19 = .ok (.athrow, 1) := by decide +kernel
theorem dX6_check_20 : decode cX6_check 20 = .ok (.aload_n 0, 1) := by decide +kernel
theorem dX6_check_21 : decode cX6_check 21 = .ok (.getfield 51, 3) := by decide +kernel
theorem dX6_check_24 : decode cX6_check 24 = .ok (.aload_n 0, 1) := by decide +kernel
theorem dX6_check_25 : decode cX6_check 25 = .ok (.getfield 51, 3) := by decide +kernel
theorem dX6_check_28 : decode cX6_check 28 = .ok (.invokevirtual 154, 3) := by decide +kernel
theorem dX6_check_31 : decode cX6_check 31 = .ok (.invokestatic 157, 3) := by decide +kernel
theorem dX6_check_34 : decode cX6_check 34 = .ok (.ireturn, 1) := by decide +kernel
theorem dX6_known_0 : decode cX6_known 0 = .ok (.iload_n 1, 1) := by decide +kernel
theorem dX6_known_1 : decode cX6_known 1 = .ok (.ifCond .lt 17, 3) := by decide +kernel
theorem dX6_known_4 : decode cX6_known 4 = .ok (.iload_n 1, 1) := by decide +kernel
theorem dX6_known_5 : decode cX6_known 5 = .ok (.aload_n 0, 1) := by decide +kernel
theorem dX6_known_6 : decode cX6_known 6 = .ok (.getfield 62, 3) := by decide +kernel
theorem dX6_known_9 : decode cX6_known 9 = .ok (.invokevirtual 207, 3) := by decide +kernel
theorem dX6_known_12 : decode cX6_known 12 = .ok (.invokevirtual 139, 3) := by decide +kernel
theorem dX6_known_15 : decode cX6_known 15 = .ok (.if_icmp .lt 13, 3) := by decide +kernel
theorem dX6_known_18 : decode cX6_known 18 = .ok (.new 112, 3) := by decide +kernel
theorem dX6_known_21 : decode cX6_known 21 = .ok (.dup, 1) := by decide +kernel
theorem dX6_known_22 : decode cX6_known 22 = .ok (.ldc 211, 2) := by decide +kernel
theorem dX6_known_24 : decode cX6_known 24 = .ok (.invokespecial 116, 3) := by decide +kernel
theorem dX6_known_27 : decode cX6_known 27 = .ok (.athrow, 1) := by decide +kernel
theorem dX6_known_28 : decode cX6_known 28 = .ok (.iload_n 2, 1) := by decide +kernel
theorem dX6_known_29 : decode cX6_known 29 = .ok (.ifCond .lt 8, 3) := by decide +kernel
theorem dX6_known_32 : decode cX6_known 32 = .ok (.iload_n 2, 1) := by decide +kernel
theorem dX6_known_33 : decode cX6_known 33 = .ok (.iconst 1, 1) := by decide +kernel
theorem dX6_known_34 : decode cX6_known 34 = .ok (.if_icmp .le 13, 3) := by decide +kernel
theorem dX6_known_37 : decode cX6_known 37 = .ok (.new 84, 3) := by decide +kernel
theorem dX6_known_40 : decode cX6_known 40 = .ok (.dup, 1) := by decide +kernel
theorem dX6_known_41 : decode cX6_known 41 = .ok (.ldc 213, 2) := by decide +kernel
theorem dX6_known_43 : decode cX6_known 43 = .ok (.invokespecial 88, 3) := by decide +kernel
theorem dX6_known_46 : decode cX6_known 46 = .ok (.athrow, 1) := by decide +kernel
theorem dX6_known_47 : decode cX6_known 47 = .ok (.iload_n 2, 1) := by decide +kernel
theorem dX6_known_48 : decode cX6_known 48 = .ok (.ifCond .ne 17, 3) := by decide +kernel
theorem dX6_known_51 : decode cX6_known 51 = .ok (.aload_n 0, 1) := by decide +kernel
theorem dX6_known_52 : decode cX6_known 52 = .ok (.getfield 62, 3) := by decide +kernel
theorem dX6_known_55 : decode cX6_known 55 = .ok (.invokevirtual 207, 3) := by decide +kernel
theorem dX6_known_58 : decode cX6_known 58 = .ok (.iload_n 1, 1) := by decide +kernel
theorem dX6_known_59 : decode cX6_known 59 = .ok (.invokevirtual 215, 3) := by decide +kernel
theorem dX6_known_62 : decode cX6_known 62 = .ok (.goto 14, 3) := by decide +kernel
theorem dX6_known_65 : decode cX6_known 65 = .ok (.aload_n 0, 1) := by decide +kernel
theorem dX6_known_66 : decode cX6_known 66 = .ok (.getfield 62, 3) := by decide +kernel
theorem dX6_known_69 : decode cX6_known 69 = .ok (.invokevirtual 207, 3) := by decide +kernel
theorem dX6_known_72 : decode cX6_known 72 = .ok (.iload_n 1, 1) := by decide +kernel
theorem dX6_known_73 : decode cX6_known 73 = .ok (.invokevirtual 218, 3) := by decide +kernel
theorem dX6_known_76 : decode cX6_known 76 = .ok (.ireturn, 1) := by decide +kernel
theorem dX6_value_0 : decode cX6_value 0 = .ok (.iload_n 1, 1) := by decide +kernel
theorem dX6_value_1 : decode cX6_value 1 = .ok (.ifCond .lt 17, 3) := by decide +kernel
theorem dX6_value_4 : decode cX6_value 4 = .ok (.iload_n 1, 1) := by decide +kernel
theorem dX6_value_5 : decode cX6_value 5 = .ok (.aload_n 0, 1) := by decide +kernel
theorem dX6_value_6 : decode cX6_value 6 = .ok (.getfield 62, 3) := by decide +kernel
theorem dX6_value_9 : decode cX6_value 9 = .ok (.invokevirtual 207, 3) := by decide +kernel
theorem dX6_value_12 : decode cX6_value 12 = .ok (.invokevirtual 139, 3) := by decide +kernel
theorem dX6_value_15 : decode cX6_value 15 = .ok (.if_icmp .lt 13, 3) := by decide +kernel
theorem dX6_value_18 : decode cX6_value 18 = .ok (.new 112, 3) := by decide +kernel
theorem dX6_value_21 : decode cX6_value 21 = .ok (.dup, 1) := by decide +kernel
theorem dX6_value_22 : decode cX6_value 22 = .ok (.ldc 211, 2) := by decide +kernel
theorem dX6_value_24 : decode cX6_value 24 = .ok (.invokespecial 116, 3) := by decide +kernel
theorem dX6_value_27 : decode cX6_value 27 = .ok (.athrow, 1) := by decide +kernel
theorem dX6_value_28 : decode cX6_value 28 = .ok (.aload_n 0, 1) := by decide +kernel
theorem dX6_value_29 : decode cX6_value 29 = .ok (.getfield 62, 3) := by decide +kernel
theorem dX6_value_32 : decode cX6_value 32 = .ok (.invokevirtual 207, 3) := by decide +kernel
theorem dX6_value_35 : decode cX6_value 35 = .ok (.iload_n 1, 1) := by decide +kernel
theorem dX6_value_36 : decode cX6_value 36 = .ok (.invokevirtual 221, 3) := by decide +kernel
theorem dX6_value_39 : decode cX6_value 39 = .ok (.lreturn, 1) := by decide +kernel
theorem dX6_mended_0 : decode cX6_mended 0 = .ok (.aload_n 0, 1) := by decide +kernel
theorem dX6_mended_1 : decode cX6_mended 1 = .ok (.getfield 73, 3) := by decide +kernel
theorem dX6_mended_4 : decode cX6_mended 4 = .ok (.ireturn, 1) := by decide +kernel
theorem dX6_hint_0 : decode cX6_hint 0 = .ok (.iload_n 1, 1) := by decide +kernel
theorem dX6_hint_1 : decode cX6_hint 1 = .ok (.ifCond .ge 13, 3) := by decide +kernel
theorem dX6_hint_4 : decode cX6_hint 4 = .ok (.new 84, 3) := by decide +kernel
theorem dX6_hint_7 : decode cX6_hint 7 = .ok (.dup, 1) := by decide +kernel
theorem dX6_hint_8 : decode cX6_hint 8 = .ok (.ldc 225, 2) := by decide +kernel
theorem dX6_hint_10 : decode cX6_hint 10 = .ok (.invokespecial 88, 3) := by decide +kernel
theorem dX6_hint_13 : decode cX6_hint 13 = .ok (.athrow, 1) := by decide +kernel
theorem dX6_hint_14 : decode cX6_hint 14 = .ok (.aload_n 0, 1) := by decide +kernel
theorem dX6_hint_15 : decode cX6_hint 15 = .ok (.getfield 62, 3) := by decide +kernel
theorem dX6_hint_18 : decode cX6_hint 18 = .ok (.invokevirtual 227, 3) := by decide +kernel
theorem dX6_hint_21 : decode cX6_hint 21 = .ok (.istore_n 2, 1) := by decide +kernel
theorem dX6_hint_22 : decode cX6_hint 22 = .ok (.iload_n 2, 1) := by decide +kernel
theorem dX6_hint_23 : decode cX6_hint 23 = .ok (.iconst (-1), 1) := by decide +kernel
theorem dX6_hint_24 : decode cX6_hint 24 = .ok (.if_icmp .ne 7, 3) := by decide +kernel
theorem dX6_hint_27 : decode cX6_hint 27 = .ok (.iconst (-1), 1) := by decide +kernel
theorem dX6_hint_28 : decode cX6_hint 28 = .ok (.goto 12, 3) := by decide +kernel
theorem dX6_hint_31 : decode cX6_hint 31 = .ok (.aload_n 0, 1) := by decide +kernel
theorem dX6_hint_32 : decode cX6_hint 32 = .ok (.getfield 30, 3) := by decide +kernel
theorem dX6_hint_35 : decode cX6_hint 35 = .ok (.iload_n 2, 1) := by decide +kernel
theorem dX6_hint_36 : decode cX6_hint 36 = .ok (.iload_n 1, 1) := by decide +kernel
theorem dX6_hint_37 : decode cX6_hint 37 = .ok (.invokevirtual 230, 3) := by decide +kernel
theorem dX6_hint_40 : decode cX6_hint 40 = .ok (.ireturn, 1) := by decide +kernel
theorem dX6_scan_0 : decode cX6_scan 0 = .ok (.iload_n 1, 1) := by decide +kernel
theorem dX6_scan_1 : decode cX6_scan 1 = .ok (.invokestatic 91, 3) := by decide +kernel
theorem dX6_scan_4 : decode cX6_scan 4 = .ok (.ifCond .eq 11, 3) := by decide +kernel
theorem dX6_scan_7 : decode cX6_scan 7 = .ok (.iload_n 2, 1) := by decide +kernel
theorem dX6_scan_8 : decode cX6_scan 8 = .ok (.aload_n 0, 1) := by decide +kernel
theorem dX6_scan_9 : decode cX6_scan 9 = .ok (.getfield 77, 3) := by decide +kernel
theorem dX6_scan_12 : decode cX6_scan 12 = .ok (.if_icmp .ge 13, 3) := by decide +kernel
theorem dX6_scan_15 : decode cX6_scan 15 = .ok (.new 84, 3) := by decide +kernel
theorem dX6_scan_18 : decode cX6_scan 18 = .ok (.dup, 1) := by decide +kernel
theorem dX6_scan_19 : decode cX6_scan 19 = .ok (.ldc 233, 2) := by decide +kernel
theorem dX6_scan_21 : decode cX6_scan 21 = .ok (.invokespecial 88, 3) := by decide +kernel
theorem dX6_scan_24 : decode cX6_scan 24 = .ok (.athrow, 1) := by decide +kernel
theorem dX6_scan_25 : decode cX6_scan 25 = .ok (.aload_n 0, 1) := by decide +kernel
theorem dX6_scan_26 : decode cX6_scan 26 = .ok (.getfield 62, 3) := by decide +kernel
theorem dX6_scan_29 : decode cX6_scan 29 = .ok (.invokevirtual 207, 3) := by decide +kernel
theorem dX6_scan_32 : decode cX6_scan 32 = .ok (.astore_n 3, 1) := by decide +kernel
theorem dX6_scan_33 : decode cX6_scan 33 = .ok (.aload_n 3, 1) := by decide +kernel
theorem dX6_scan_34 : decode cX6_scan 34 = .ok (.invokevirtual 139, 3) := by decide +kernel
theorem dX6_scan_37 : decode cX6_scan 37 = .ok (.ifCond .ne 13, 3) := by decide +kernel
theorem dX6_scan_40 : decode cX6_scan 40 = .ok (.new 140, 3) := by decide +kernel
theorem dX6_scan_43 : decode cX6_scan 43 = .ok (.dup, 1) := by decide +kernel
theorem dX6_scan_44 : decode cX6_scan 44 = .ok (.ldc 235, 2) := by decide +kernel
theorem dX6_scan_46 : decode cX6_scan 46 = .ok (.invokespecial 144, 3) := by decide +kernel
theorem dX6_scan_49 : decode cX6_scan 49 = .ok (.athrow, 1) := by decide +kernel
theorem dX6_scan_50 : decode cX6_scan 50 = .ok (.aload_n 0, 1) := by decide +kernel
theorem dX6_scan_51 : decode cX6_scan 51 = .ok (.getfield 69, 3) := by decide +kernel
theorem dX6_scan_54 : decode cX6_scan 54 = .ok (.aload_n 3, 1) := by decide +kernel
theorem dX6_scan_55 : decode cX6_scan 55 = .ok (.invokevirtual 237, 3) := by decide +kernel
theorem dX6_scan_58 : decode cX6_scan 58 = .ok (.istore 4, 2) := by decide +kernel
theorem dX6_scan_60 : decode cX6_scan 60 = .ok (.iload 4, 2) := by decide +kernel
theorem dX6_scan_62 : decode cX6_scan 62 = .ok (.iconst (-1), 1) := by decide +kernel
theorem dX6_scan_63 : decode cX6_scan 63 = .ok (.if_icmp .ne 23, 3) := by decide +kernel
theorem dX6_scan_66 : decode cX6_scan 66 = .ok (.aload_n 0, 1) := by decide +kernel
theorem dX6_scan_67 : decode cX6_scan 67 = .ok (.getfield 69, 3) := by decide +kernel
theorem dX6_scan_70 : decode cX6_scan 70 = .ok (.invokevirtual 241, 3) := by decide +kernel
theorem dX6_scan_73 : decode cX6_scan 73 = .ok (.ifCond .eq 13, 3) := by decide +kernel
theorem dX6_scan_76 : decode cX6_scan 76 = .ok (.new 103, 3) := by decide +kernel
theorem dX6_scan_79 : decode cX6_scan 79 = .ok (.dup, 1) := by decide +kernel
theorem dX6_scan_80 : decode cX6_scan 80 = .ok (.ldc 242, 2) := by decide +kernel
theorem dX6_scan_82 : decode cX6_scan 82 = .ok (.invokespecial 107, 3) := by decide +kernel
theorem dX6_scan_85 : decode cX6_scan 85 = .ok (.athrow, 1) := by decide +kernel
theorem dX6_scan_86 : decode cX6_scan 86 = .ok (.aload_n 0, 1) := by decide +kernel
theorem dX6_scan_87 : decode cX6_scan 87 = .ok (.iload_n 2, 1) := by decide +kernel
theorem dX6_scan_88 : decode cX6_scan 88 = .ok (.putfield 77, 3) := by decide +kernel
theorem dX6_scan_91 : decode cX6_scan 91 = .ok (.aload_n 0, 1) := by decide +kernel
theorem dX6_scan_92 : decode cX6_scan 92 = .ok (.aload_n 3, 1) := by decide +kernel
theorem dX6_scan_93 : decode cX6_scan 93 = .ok (.iload_n 1, 1) := by decide +kernel
theorem dX6_scan_94 : decode cX6_scan 94 = .ok (.invokevirtual 244, 3) := by decide +kernel
theorem dX6_scan_97 : decode cX6_scan 97 = .ok (.istore 5, 2) := by decide +kernel
theorem dX6_scan_99 : decode cX6_scan 99 = .ok (.iload 5, 2) := by decide +kernel
theorem dX6_scan_101 : decode cX6_scan 101 = .ok (.iconst (-1), 1) := by decide +kernel
theorem dX6_scan_102 : decode cX6_scan 102 = .ok (.if_icmp .eq 8, 3) := by decide +kernel
theorem dX6_scan_105 : decode cX6_scan 105 = .ok (.iconst (-1), 1) := by decide +kernel
theorem dX6_scan_106 : decode cX6_scan 106 = .ok (.iload 5, 2) := by decide +kernel
theorem dX6_scan_108 : decode cX6_scan 108 = .ok (.isub, 1) := by decide +kernel
theorem dX6_scan_109 : decode cX6_scan 109 = .ok (.ireturn, 1) := by decide +kernel
theorem dX6_scan_110 : decode cX6_scan 110 = .ok (.iload 4, 2) := by decide +kernel
theorem dX6_scan_112 : decode cX6_scan 112 = .ok (.iconst (-1), 1) := by decide +kernel
theorem dX6_scan_113 : decode cX6_scan 113 = .ok (.if_icmp .ne 13, 3) := by decide +kernel
theorem dX6_scan_116 : decode cX6_scan 116 = .ok (.aload_n 0, 1) := by decide +kernel
theorem dX6_scan_117 : decode cX6_scan 117 = .ok (.getfield 69, 3) := by decide +kernel
theorem dX6_scan_120 : decode cX6_scan 120 = .ok (.aload_n 3, 1) := by decide +kernel
theorem dX6_scan_121 : decode cX6_scan 121 = .ok (.invokevirtual 248, 3) := by decide +kernel
theorem dX6_scan_124 : decode cX6_scan 124 = .ok (.istore 4, 2) := by decide +kernel
theorem dX6_scan_126 : decode cX6_scan 126 = .ok (.aload_n 0, 1) := by decide +kernel
theorem dX6_scan_127 : decode cX6_scan 127 = .ok (.getfield 69, 3) := by decide +kernel
theorem dX6_scan_130 : decode cX6_scan 130 = .ok (.iload 4, 2) := by decide +kernel
theorem dX6_scan_132 : decode cX6_scan 132 = .ok (.iload_n 1, 1) := by decide +kernel
theorem dX6_scan_133 : decode cX6_scan 133 = .ok (.iload_n 2, 1) := by decide +kernel
theorem dX6_scan_134 : decode cX6_scan 134 = .ok (.invokevirtual 250, 3) := by decide +kernel
theorem dX6_scan_137 : decode cX6_scan 137 = .ok (.ifCond .eq 10, 3) := by decide +kernel
theorem dX6_scan_140 : decode cX6_scan 140 = .ok (.aload_n 3, 1) := by decide +kernel
theorem dX6_scan_141 : decode cX6_scan 141 = .ok (.invokevirtual 139, 3) := by decide +kernel
theorem dX6_scan_144 : decode cX6_scan 144 = .ok (.goto 4, 3) := by decide +kernel
theorem dX6_scan_147 : decode cX6_scan 147 = .ok (.iconst 0, 1) := by decide +kernel
theorem dX6_scan_148 : decode cX6_scan 148 = .ok (.ireturn, 1) := by decide +kernel
theorem dX6_count_0 : decode cX6_count 0 = .ok (.iload_n 1, 1) := by decide +kernel
theorem dX6_count_1 : decode cX6_count 1 = .ok (.tableswitch 114 0 7 #[47, 55, 63, 71, 79, 87, 98, 106], 47) := by decide +kernel
theorem dX6_count_48 : decode cX6_count 48 = .ok (.aload_n 0, 1) := by decide +kernel
theorem dX6_count_49 : decode cX6_count 49 = .ok (.getfield 30, 3) := by decide +kernel
theorem dX6_count_52 : decode cX6_count 52 = .ok (.invokevirtual 99, 3) := by decide +kernel
theorem dX6_count_55 : decode cX6_count 55 = .ok (.ireturn, 1) := by decide +kernel
theorem dX6_count_56 : decode cX6_count 56 = .ok (.aload_n 0, 1) := by decide +kernel
theorem dX6_count_57 : decode cX6_count 57 = .ok (.getfield 37, 3) := by decide +kernel
theorem dX6_count_60 : decode cX6_count 60 = .ok (.invokevirtual 139, 3) := by decide +kernel
theorem dX6_count_63 : decode cX6_count 63 = .ok (.ireturn, 1) := by decide +kernel
theorem dX6_count_64 : decode cX6_count 64 = .ok (.aload_n 0, 1) := by decide +kernel
theorem dX6_count_65 : decode cX6_count 65 = .ok (.getfield 44, 3) := by decide +kernel
theorem dX6_count_68 : decode cX6_count 68 = .ok (.invokevirtual 154, 3) := by decide +kernel
theorem dX6_count_71 : decode cX6_count 71 = .ok (.ireturn, 1) := by decide +kernel
theorem dX6_count_72 : decode cX6_count 72 = .ok (.aload_n 0, 1) := by decide +kernel
theorem dX6_count_73 : decode cX6_count 73 = .ok (.getfield 48, 3) := by decide +kernel
theorem dX6_count_76 : decode cX6_count 76 = .ok (.invokevirtual 154, 3) := by decide +kernel
theorem dX6_count_79 : decode cX6_count 79 = .ok (.ireturn, 1) := by decide +kernel
theorem dX6_count_80 : decode cX6_count 80 = .ok (.aload_n 0, 1) := by decide +kernel
theorem dX6_count_81 : decode cX6_count 81 = .ok (.getfield 51, 3) := by decide +kernel
theorem dX6_count_84 : decode cX6_count 84 = .ok (.invokevirtual 154, 3) := by decide +kernel
theorem dX6_count_87 : decode cX6_count 87 = .ok (.ireturn, 1) := by decide +kernel
theorem dX6_count_88 : decode cX6_count 88 = .ok (.aload_n 0, 1) := by decide +kernel
theorem dX6_count_89 : decode cX6_count 89 = .ok (.getfield 62, 3) := by decide +kernel
theorem dX6_count_92 : decode cX6_count 92 = .ok (.invokevirtual 207, 3) := by decide +kernel
theorem dX6_count_95 : decode cX6_count 95 = .ok (.invokevirtual 139, 3) := by decide +kernel
theorem dX6_count_98 : decode cX6_count 98 = .ok (.ireturn, 1) := by decide +kernel
theorem dX6_count_99 : decode cX6_count 99 = .ok (.aload_n 0, 1) := by decide +kernel
theorem dX6_count_100 : decode cX6_count 100 = .ok (.getfield 69, 3) := by decide +kernel
theorem dX6_count_103 : decode cX6_count 103 = .ok (.invokevirtual 254, 3) := by decide +kernel
theorem dX6_count_106 : decode cX6_count 106 = .ok (.ireturn, 1) := by decide +kernel
theorem dX6_count_107 : decode cX6_count 107 = .ok (.aload_n 0, 1) := by decide +kernel
theorem dX6_count_108 : decode cX6_count 108 = .ok (.getfield 23, 3) := by decide +kernel
theorem dX6_count_111 : decode cX6_count 111 = .ok (.invokevirtual 255, 3) := by decide +kernel
theorem dX6_count_114 : decode cX6_count 114 = .ok (.ireturn, 1) := by decide +kernel
theorem dX6_count_115 : decode cX6_count 115 = .ok (.iconst (-1), 1) := by decide +kernel
theorem dX6_count_116 : decode cX6_count 116 = .ok (.ireturn, 1) := by decide +kernel
theorem dX6_isPrefix_0 : decode cX6_isPrefix 0 = .ok (.iload_n 0, 1) := by decide +kernel
theorem dX6_isPrefix_1 : decode cX6_isPrefix 1 = .ok (.bipush 10, 2) := by decide +kernel
theorem dX6_isPrefix_3 : decode cX6_isPrefix 3 = .ok (.if_icmp .lt 13, 3) := by decide +kernel
theorem dX6_isPrefix_6 : decode cX6_isPrefix 6 = .ok (.iload_n 0, 1) := by decide +kernel
theorem dX6_isPrefix_7 : decode cX6_isPrefix 7 = .ok (.bipush 99, 2) := by decide +kernel
theorem dX6_isPrefix_9 : decode cX6_isPrefix 9 = .ok (.if_icmp .gt 7, 3) := by decide +kernel
theorem dX6_isPrefix_12 : decode cX6_isPrefix 12 = .ok (.iconst 1, 1) := by decide +kernel
theorem dX6_isPrefix_13 : decode cX6_isPrefix 13 = .ok (.goto 4, 3) := by decide +kernel
theorem dX6_isPrefix_16 : decode cX6_isPrefix 16 = .ok (.iconst 0, 1) := by decide +kernel
theorem dX6_isPrefix_17 : decode cX6_isPrefix 17 = .ok (.ireturn, 1) := by decide +kernel
theorem dX6_isStation_0 : decode cX6_isStation 0 = .ok (.iload_n 0, 1) := by decide +kernel
theorem dX6_isStation_1 : decode cX6_isStation 1 = .ok (.ifCond .lt 13, 3) := by decide +kernel
theorem dX6_isStation_4 : decode cX6_isStation 4 = .ok (.iload_n 0, 1) := by decide +kernel
theorem dX6_isStation_5 : decode cX6_isStation 5 = .ok (.bipush 8, 2) := by decide +kernel
theorem dX6_isStation_7 : decode cX6_isStation 7 = .ok (.if_icmp .ge 7, 3) := by decide +kernel
theorem dX6_isStation_10 : decode cX6_isStation 10 = .ok (.iconst 1, 1) := by decide +kernel
theorem dX6_isStation_11 : decode cX6_isStation 11 = .ok (.goto 4, 3) := by decide +kernel
theorem dX6_isStation_14 : decode cX6_isStation 14 = .ok (.iconst 0, 1) := by decide +kernel
theorem dX6_isStation_15 : decode cX6_isStation 15 = .ok (.ireturn, 1) := by decide +kernel
theorem dX6_digitsOf_0 : decode cX6_digitsOf 0 = .ok (.iconst 1, 1) := by decide +kernel
theorem dX6_digitsOf_1 : decode cX6_digitsOf 1 = .ok (.istore_n 2, 1) := by decide +kernel
theorem dX6_digitsOf_2 : decode cX6_digitsOf 2 = .ok (.lload_n 0, 1) := by decide +kernel
theorem dX6_digitsOf_3 : decode cX6_digitsOf 3 = .ok (.ldc2_w 258, 3) := by decide +kernel
theorem dX6_digitsOf_6 : decode cX6_digitsOf 6 = .ok (.ldiv, 1) := by decide +kernel
theorem dX6_digitsOf_7 : decode cX6_digitsOf 7 = .ok (.lstore_n 3, 1) := by decide +kernel
theorem dX6_digitsOf_8 : decode cX6_digitsOf 8 = .ok (.iconst 0, 1) := by decide +kernel
theorem dX6_digitsOf_9 : decode cX6_digitsOf 9 = .ok (.istore 5, 2) := by decide +kernel
theorem dX6_digitsOf_11 : decode cX6_digitsOf 11 = .ok (.iload 5, 2) := by decide +kernel
theorem dX6_digitsOf_13 : decode cX6_digitsOf 13 = .ok (.bipush 19, 2) := by decide +kernel
theorem dX6_digitsOf_15 : decode cX6_digitsOf 15 = .ok (.if_icmp .ge 24, 3) := by decide +kernel
theorem dX6_digitsOf_18 : decode cX6_digitsOf 18 = .ok (.lload_n 3, 1) := by decide +kernel
theorem dX6_digitsOf_19 : decode cX6_digitsOf 19 = .ok (.lconst 0, 1) := by decide +kernel
theorem dX6_digitsOf_20 : decode cX6_digitsOf 20 = .ok (.lcmp, 1) := by decide +kernel
theorem dX6_digitsOf_21 : decode cX6_digitsOf 21 = .ok (.ifCond .eq 18, 3) := by decide +kernel
theorem dX6_digitsOf_24 : decode cX6_digitsOf 24 = .ok (.lload_n 3, 1) := by decide +kernel
theorem dX6_digitsOf_25 : decode cX6_digitsOf 25 = .ok (.ldc2_w 258, 3) := by decide +kernel
theorem dX6_digitsOf_28 : decode cX6_digitsOf 28 = .ok (.ldiv, 1) := by decide +kernel
theorem dX6_digitsOf_29 : decode cX6_digitsOf 29 = .ok (.lstore_n 3, 1) := by decide +kernel
theorem dX6_digitsOf_30 : decode cX6_digitsOf 30 = .ok (.iinc 2 1, 3) := by decide +kernel
theorem dX6_digitsOf_33 : decode cX6_digitsOf 33 = .ok (.iinc 5 1, 3) := by decide +kernel
theorem dX6_digitsOf_36 : decode cX6_digitsOf 36 = .ok (.goto (-25), 3) := by decide +kernel
theorem dX6_digitsOf_39 : decode cX6_digitsOf 39 = .ok (.iload_n 2, 1) := by decide +kernel
theorem dX6_digitsOf_40 : decode cX6_digitsOf 40 = .ok (.ireturn, 1) := by decide +kernel
theorem dX6_checkSign_0 : decode cX6_checkSign 0 = .ok (.iconst 0, 1) := by decide +kernel
theorem dX6_checkSign_1 : decode cX6_checkSign 1 = .ok (.istore_n 2, 1) := by decide +kernel
theorem dX6_checkSign_2 : decode cX6_checkSign 2 = .ok (.iconst 3, 1) := by decide +kernel
theorem dX6_checkSign_3 : decode cX6_checkSign 3 = .ok (.istore_n 3, 1) := by decide +kernel
theorem dX6_checkSign_4 : decode cX6_checkSign 4 = .ok (.iload_n 1, 1) := by decide +kernel
theorem dX6_checkSign_5 : decode cX6_checkSign 5 = .ok (.iconst 1, 1) := by decide +kernel
theorem dX6_checkSign_6 : decode cX6_checkSign 6 = .ok (.isub, 1) := by decide +kernel
theorem dX6_checkSign_7 : decode cX6_checkSign 7 = .ok (.istore 4, 2) := by decide +kernel
theorem dX6_checkSign_9 : decode cX6_checkSign 9 = .ok (.iload 4, 2) := by decide +kernel
theorem dX6_checkSign_11 : decode cX6_checkSign 11 = .ok (.ifCond .lt 24, 3) := by decide +kernel
theorem dX6_checkSign_14 : decode cX6_checkSign 14 = .ok (.iload_n 2, 1) := by decide +kernel
theorem dX6_checkSign_15 : decode cX6_checkSign 15 = .ok (.iload_n 3, 1) := by decide +kernel
theorem dX6_checkSign_16 : decode cX6_checkSign 16 = .ok (.aload_n 0, 1) := by decide +kernel
theorem dX6_checkSign_17 : decode cX6_checkSign 17 = .ok (.iload 4, 2) := by decide +kernel
theorem dX6_checkSign_19 : decode cX6_checkSign 19 = .ok (.invokevirtual 172, 3) := by decide +kernel
theorem dX6_checkSign_22 : decode cX6_checkSign 22 = .ok (.imul, 1) := by decide +kernel
theorem dX6_checkSign_23 : decode cX6_checkSign 23 = .ok (.iadd, 1) := by decide +kernel
theorem dX6_checkSign_24 : decode cX6_checkSign 24 = .ok (.istore_n 2, 1) := by decide +kernel
theorem dX6_checkSign_25 : decode cX6_checkSign 25 = .ok (.iconst 4, 1) := by decide +kernel
theorem dX6_checkSign_26 : decode cX6_checkSign 26 = .ok (.iload_n 3, 1) := by decide +kernel
theorem dX6_checkSign_27 : decode cX6_checkSign 27 = .ok (.isub, 1) := by decide +kernel
theorem dX6_checkSign_28 : decode cX6_checkSign 28 = .ok (.istore_n 3, 1) := by decide +kernel
theorem dX6_checkSign_29 : decode cX6_checkSign 29 = .ok (.iinc 4 (-1), 3) := by decide +kernel
theorem dX6_checkSign_32 : decode cX6_checkSign 32 = .ok (.goto (-23), 3) := by decide +kernel
theorem dX6_checkSign_35 : decode cX6_checkSign 35 = .ok (.iload_n 2, 1) := by decide +kernel
theorem dX6_checkSign_36 : decode cX6_checkSign 36 = .ok (.ineg, 1) := by decide +kernel
theorem dX6_checkSign_37 : decode cX6_checkSign 37 = .ok (.bipush 10, 2) := by decide +kernel
theorem dX6_checkSign_39 : decode cX6_checkSign 39 = .ok (.invokestatic 260, 3) := by decide +kernel
theorem dX6_checkSign_42 : decode cX6_checkSign 42 = .ok (.ireturn, 1) := by decide +kernel
theorem dX6_writeFields_0 : decode cX6_writeFields 0 = .ok (.aload_n 0, 1) := by decide +kernel
theorem dX6_writeFields_1 : decode cX6_writeFields 1 = .ok (.getfield 54, 3) := by decide +kernel
theorem dX6_writeFields_4 : decode cX6_writeFields 4 = .ok (.invokevirtual 176, 3) := by decide +kernel
theorem dX6_writeFields_7 : decode cX6_writeFields 7 = .ok (.aload_n 0, 1) := by decide +kernel
theorem dX6_writeFields_8 : decode cX6_writeFields 8 = .ok (.getfield 37, 3) := by decide +kernel
theorem dX6_writeFields_11 : decode cX6_writeFields 11 = .ok (.invokevirtual 139, 3) := by decide +kernel
theorem dX6_writeFields_14 : decode cX6_writeFields 14 = .ok (.iconst 1, 1) := by decide +kernel
theorem dX6_writeFields_15 : decode cX6_writeFields 15 = .ok (.isub, 1) := by decide +kernel
theorem dX6_writeFields_16 : decode cX6_writeFields 16 = .ok (.istore_n 1, 1) := by decide +kernel
theorem dX6_writeFields_17 : decode cX6_writeFields 17 = .ok (.iconst 0, 1) := by decide +kernel
theorem dX6_writeFields_18 : decode cX6_writeFields 18 = .ok (.istore_n 2, 1) := by decide +kernel
theorem dX6_writeFields_19 : decode cX6_writeFields 19 = .ok (.iload_n 2, 1) := by decide +kernel
theorem dX6_writeFields_20 : decode cX6_writeFields 20 = .ok (.iload_n 1, 1) := by decide +kernel
theorem dX6_writeFields_21 : decode cX6_writeFields 21 = .ok (.if_icmp .gt 76, 3) := by decide +kernel
theorem dX6_writeFields_24 : decode cX6_writeFields 24 = .ok (.aload_n 0, 1) := by decide +kernel
theorem dX6_writeFields_25 : decode cX6_writeFields 25 = .ok (.getfield 37, 3) := by decide +kernel
theorem dX6_writeFields_28 : decode cX6_writeFields 28 = .ok (.iload_n 2, 1) := by decide +kernel
theorem dX6_writeFields_29 : decode cX6_writeFields 29 = .ok (.invokevirtual 215, 3) := by decide +kernel
theorem dX6_writeFields_32 : decode cX6_writeFields 32 = .ok (.istore_n 3, 1) := by decide +kernel
theorem dX6_writeFields_33 : decode cX6_writeFields 33 = .ok (.aload_n 0, 1) := by decide +kernel
theorem dX6_writeFields_34 : decode cX6_writeFields 34 = .ok (.getfield 54, 3) := by decide +kernel
theorem dX6_writeFields_37 : decode cX6_writeFields 37 = .ok (.iload_n 3, 1) := by decide +kernel
theorem dX6_writeFields_38 : decode cX6_writeFields 38 = .ok (.i2l, 1) := by decide +kernel
theorem dX6_writeFields_39 : decode cX6_writeFields 39 = .ok (.iconst 2, 1) := by decide +kernel
theorem dX6_writeFields_40 : decode cX6_writeFields 40 = .ok (.invokevirtual 263, 3) := by decide +kernel
theorem dX6_writeFields_43 : decode cX6_writeFields 43 = .ok (.aload_n 0, 1) := by decide +kernel
theorem dX6_writeFields_44 : decode cX6_writeFields 44 = .ok (.getfield 54, 3) := by decide +kernel
theorem dX6_writeFields_47 : decode cX6_writeFields 47 = .ok (.aload_n 0, 1) := by decide +kernel
theorem dX6_writeFields_48 : decode cX6_writeFields 48 = .ok (.getfield 37, 3) := by decide +kernel
theorem dX6_writeFields_51 : decode cX6_writeFields 51 = .ok (.iload_n 2, 1) := by decide +kernel
theorem dX6_writeFields_52 : decode cX6_writeFields 52 = .ok (.invokevirtual 221, 3) := by decide +kernel
theorem dX6_writeFields_55 : decode cX6_writeFields 55 = .ok (.aload_n 0, 1) := by decide +kernel
theorem dX6_writeFields_56 : decode cX6_writeFields 56 = .ok (.getfield 37, 3) := by decide +kernel
theorem dX6_writeFields_59 : decode cX6_writeFields 59 = .ok (.iload_n 2, 1) := by decide +kernel
theorem dX6_writeFields_60 : decode cX6_writeFields 60 = .ok (.invokevirtual 218, 3) := by decide +kernel
theorem dX6_writeFields_63 : decode cX6_writeFields 63 = .ok (.invokevirtual 263, 3) := by decide +kernel
theorem dX6_writeFields_66 : decode cX6_writeFields 66 = .ok (.iload_n 2, 1) := by decide +kernel
theorem dX6_writeFields_67 : decode cX6_writeFields 67 = .ok (.iload_n 1, 1) := by decide +kernel
theorem dX6_writeFields_68 : decode cX6_writeFields 68 = .ok (.if_icmp .ge 23, 3) := by decide +kernel
theorem dX6_writeFields_71 : decode cX6_writeFields 71 = .ok (.aload_n 0, 1) := by decide +kernel
theorem dX6_writeFields_72 : decode cX6_writeFields 72 = .ok (.getfield 30, 3) := by decide +kernel
theorem dX6_writeFields_75 : decode cX6_writeFields 75 = .ok (.iload_n 3, 1) := by decide +kernel
theorem dX6_writeFields_76 : decode cX6_writeFields 76 = .ok (.invokevirtual 267, 3) := by decide +kernel
theorem dX6_writeFields_79 : decode cX6_writeFields 79 = .ok (.ifCond .ne 12, 3) := by decide +kernel
theorem dX6_writeFields_82 : decode cX6_writeFields 82 = .ok (.aload_n 0, 1) := by decide +kernel
theorem dX6_writeFields_83 : decode cX6_writeFields 83 = .ok (.getfield 54, 3) := by decide +kernel
theorem dX6_writeFields_86 : decode cX6_writeFields 86 = .ok (.bipush 10, 2) := by decide +kernel
theorem dX6_writeFields_88 : decode cX6_writeFields 88 = .ok (.invokevirtual 161, 3) := by decide +kernel
theorem dX6_writeFields_91 : decode cX6_writeFields 91 = .ok (.iinc 2 1, 3) := by decide +kernel
theorem dX6_writeFields_94 : decode cX6_writeFields 94 = .ok (.goto (-75), 3) := by decide +kernel
theorem dX6_writeFields_97 : decode cX6_writeFields 97 = .ok (.return_, 1) := by decide +kernel
theorem dX6_firstStrange_0 : decode cX6_firstStrange 0 = .ok (.iconst 0, 1) := by decide +kernel
theorem dX6_firstStrange_1 : decode cX6_firstStrange 1 = .ok (.istore_n 3, 1) := by decide +kernel
theorem dX6_firstStrange_2 : decode cX6_firstStrange 2 = .ok (.iload_n 3, 1) := by decide +kernel
theorem dX6_firstStrange_3 : decode cX6_firstStrange 3 = .ok (.aload_n 1, 1) := by decide +kernel
theorem dX6_firstStrange_4 : decode cX6_firstStrange 4 = .ok (.invokevirtual 139, 3) := by decide +kernel
theorem dX6_firstStrange_7 : decode cX6_firstStrange 7 = .ok (.if_icmp .ge 37, 3) := by decide +kernel
theorem dX6_firstStrange_10 : decode cX6_firstStrange 10 = .ok (.aload_n 0, 1) := by decide +kernel
theorem dX6_firstStrange_11 : decode cX6_firstStrange 11 = .ok (.getfield 30, 3) := by decide +kernel
theorem dX6_firstStrange_14 : decode cX6_firstStrange 14 = .ok (.aload_n 1, 1) := by decide +kernel
theorem dX6_firstStrange_15 : decode cX6_firstStrange 15 = .ok (.iload_n 3, 1) := by decide +kernel
theorem dX6_firstStrange_16 : decode cX6_firstStrange 16 = .ok (.invokevirtual 215, 3) := by decide +kernel
theorem dX6_firstStrange_19 : decode cX6_firstStrange 19 = .ok (.invokevirtual 270, 3) := by decide +kernel
theorem dX6_firstStrange_22 : decode cX6_firstStrange 22 = .ok (.istore 4, 2) := by decide +kernel
theorem dX6_firstStrange_24 : decode cX6_firstStrange 24 = .ok (.iload 4, 2) := by decide +kernel
theorem dX6_firstStrange_26 : decode cX6_firstStrange 26 = .ok (.iconst (-1), 1) := by decide +kernel
theorem dX6_firstStrange_27 : decode cX6_firstStrange 27 = .ok (.if_icmp .eq 11, 3) := by decide +kernel
theorem dX6_firstStrange_30 : decode cX6_firstStrange 30 = .ok (.iload 4, 2) := by decide +kernel
theorem dX6_firstStrange_32 : decode cX6_firstStrange 32 = .ok (.iload_n 2, 1) := by decide +kernel
theorem dX6_firstStrange_33 : decode cX6_firstStrange 33 = .ok (.if_icmp .eq 5, 3) := by decide +kernel
theorem dX6_firstStrange_36 : decode cX6_firstStrange 36 = .ok (.iload_n 3, 1) := by decide +kernel
theorem dX6_firstStrange_37 : decode cX6_firstStrange 37 = .ok (.ireturn, 1) := by decide +kernel
theorem dX6_firstStrange_38 : decode cX6_firstStrange 38 = .ok (.iinc 3 1, 3) := by decide +kernel
theorem dX6_firstStrange_41 : decode cX6_firstStrange 41 = .ok (.goto (-39), 3) := by decide +kernel
theorem dX6_firstStrange_44 : decode cX6_firstStrange 44 = .ok (.iconst (-1), 1) := by decide +kernel
theorem dX6_firstStrange_45 : decode cX6_firstStrange 45 = .ok (.ireturn, 1) := by decide +kernel
theorem dX7_init_0 : decode cX7_init 0 = .ok (.aload_n 0, 1) := by decide +kernel
theorem dX7_init_1 : decode cX7_init 1 = .ok (.invokespecial 1, 3) := by decide +kernel
theorem dX7_init_4 : decode cX7_init 4 = .ok (.aload_n 0, 1) := by decide +kernel
theorem dX7_init_5 : decode cX7_init 5 = .ok (.iconst 0, 1) := by decide +kernel
theorem dX7_init_6 : decode cX7_init 6 = .ok (.putfield 7, 3) := by decide +kernel
theorem dX7_init_9 : decode cX7_init 9 = .ok (.aload_n 0, 1) := by decide +kernel
theorem dX7_init_10 : decode cX7_init 10 = .ok (.bipush 100, 2) := by decide +kernel
theorem dX7_init_12 : decode cX7_init 12 = .ok (.newarray .int, 2) := by decide +kernel
theorem dX7_init_14 : decode cX7_init 14 = .ok (.putfield 13, 3) := by decide +kernel
theorem dX7_init_17 : decode cX7_init 17 = .ok (.aload_n 0, 1) := by decide +kernel
theorem dX7_init_18 : decode cX7_init 18 = .ok (.bipush 100, 2) := by decide +kernel
theorem dX7_init_20 : decode cX7_init 20 = .ok (.newarray .boolean, 2) := by decide +kernel
theorem dX7_init_22 : decode cX7_init 22 = .ok (.putfield 17, 3) := by decide +kernel
theorem dX7_init_25 : decode cX7_init 25 = .ok (.aload_n 0, 1) := by decide +kernel
theorem dX7_init_26 : decode cX7_init 26 = .ok (.bipush 100, 2) := by decide +kernel
theorem dX7_init_28 : decode cX7_init 28 = .ok (.newarray .int, 2) := by decide +kernel
theorem dX7_init_30 : decode cX7_init 30 = .ok (.putfield 21, 3) := by decide +kernel
theorem dX7_init_33 : decode cX7_init 33 = .ok (.aload_n 0, 1) := by decide +kernel
theorem dX7_init_34 : decode cX7_init 34 = .ok (.bipush 100, 2) := by decide +kernel
theorem dX7_init_36 : decode cX7_init 36 = .ok (.newarray .int, 2) := by decide +kernel
theorem dX7_init_38 : decode cX7_init 38 = .ok (.putfield 24, 3) := by decide +kernel
theorem dX7_init_41 : decode cX7_init 41 = .ok (.aload_n 0, 1) := by decide +kernel
theorem dX7_init_42 : decode cX7_init 42 = .ok (.iconst 0, 1) := by decide +kernel
theorem dX7_init_43 : decode cX7_init 43 = .ok (.putfield 27, 3) := by decide +kernel
theorem dX7_init_46 : decode cX7_init 46 = .ok (.aload_n 0, 1) := by decide +kernel
theorem dX7_init_47 : decode cX7_init 47 = .ok (.bipush 6, 2) := by decide +kernel
theorem dX7_init_49 : decode cX7_init 49 = .ok (.newarray .int, 2) := by decide +kernel
theorem dX7_init_51 : decode cX7_init 51 = .ok (.putfield 30, 3) := by decide +kernel
theorem dX7_init_54 : decode cX7_init 54 = .ok (.aload_n 0, 1) := by decide +kernel
theorem dX7_init_55 : decode cX7_init 55 = .ok (.bipush 6, 2) := by decide +kernel
theorem dX7_init_57 : decode cX7_init 57 = .ok (.newarray .int, 2) := by decide +kernel
theorem dX7_init_59 : decode cX7_init 59 = .ok (.putfield 33, 3) := by decide +kernel
theorem dX7_init_62 : decode cX7_init 62 = .ok (.aload_n 0, 1) := by decide +kernel
theorem dX7_init_63 : decode cX7_init 63 = .ok (.bipush 6, 2) := by decide +kernel
theorem dX7_init_65 : decode cX7_init 65 = .ok (.newarray .long, 2) := by decide +kernel
theorem dX7_init_67 : decode cX7_init 67 = .ok (.putfield 36, 3) := by decide +kernel
theorem dX7_init_70 : decode cX7_init 70 = .ok (.aload_n 0, 1) := by decide +kernel
theorem dX7_init_71 : decode cX7_init 71 = .ok (.iconst 0, 1) := by decide +kernel
theorem dX7_init_72 : decode cX7_init 72 = .ok (.putfield 40, 3) := by decide +kernel
theorem dX7_init_75 : decode cX7_init 75 = .ok (.aload_n 0, 1) := by decide +kernel
theorem dX7_init_76 : decode cX7_init 76 = .ok (.sipush 420, 3) := by decide +kernel
theorem dX7_init_79 : decode cX7_init 79 = .ok (.newarray .int, 2) := by decide +kernel
theorem dX7_init_81 : decode cX7_init 81 = .ok (.putfield 43, 3) := by decide +kernel
theorem dX7_init_84 : decode cX7_init 84 = .ok (.aload_n 0, 1) := by decide +kernel
theorem dX7_init_85 : decode cX7_init 85 = .ok (.iconst 0, 1) := by decide +kernel
theorem dX7_init_86 : decode cX7_init 86 = .ok (.putfield 46, 3) := by decide +kernel
theorem dX7_init_89 : decode cX7_init 89 = .ok (.aload_n 0, 1) := by decide +kernel
theorem dX7_init_90 : decode cX7_init 90 = .ok (.sipush 420, 3) := by decide +kernel
theorem dX7_init_93 : decode cX7_init 93 = .ok (.newarray .int, 2) := by decide +kernel
theorem dX7_init_95 : decode cX7_init 95 = .ok (.putfield 49, 3) := by decide +kernel
theorem dX7_init_98 : decode cX7_init 98 = .ok (.aload_n 0, 1) := by decide +kernel
theorem dX7_init_99 : decode cX7_init 99 = .ok (.iconst 0, 1) := by decide +kernel
theorem dX7_init_100 : decode cX7_init 100 = .ok (.putfield 52, 3) := by decide +kernel
theorem dX7_init_103 : decode cX7_init 103 = .ok (.aload_n 0, 1) := by decide +kernel
theorem dX7_init_104 : decode cX7_init 104 = .ok (.bipush 60, 2) := by decide +kernel
theorem dX7_init_106 : decode cX7_init 106 = .ok (.newarray .int, 2) := by decide +kernel
theorem dX7_init_108 : decode cX7_init 108 = .ok (.putfield 55, 3) := by decide +kernel
theorem dX7_init_111 : decode cX7_init 111 = .ok (.aload_n 0, 1) := by decide +kernel
theorem dX7_init_112 : decode cX7_init 112 = .ok (.iconst 0, 1) := by decide +kernel
theorem dX7_init_113 : decode cX7_init 113 = .ok (.putfield 58, 3) := by decide +kernel
theorem dX7_init_116 : decode cX7_init 116 = .ok (.aload_n 0, 1) := by decide +kernel
theorem dX7_init_117 : decode cX7_init 117 = .ok (.iconst 0, 1) := by decide +kernel
theorem dX7_init_118 : decode cX7_init 118 = .ok (.putfield 61, 3) := by decide +kernel
theorem dX7_init_121 : decode cX7_init 121 = .ok (.aload_n 0, 1) := by decide +kernel
theorem dX7_init_122 : decode cX7_init 122 = .ok (.bipush 120, 2) := by decide +kernel
theorem dX7_init_124 : decode cX7_init 124 = .ok (.newarray .int, 2) := by decide +kernel
theorem dX7_init_126 : decode cX7_init 126 = .ok (.putfield 64, 3) := by decide +kernel
theorem dX7_init_129 : decode cX7_init 129 = .ok (.aload_n 0, 1) := by decide +kernel
theorem dX7_init_130 : decode cX7_init 130 = .ok (.iconst 0, 1) := by decide +kernel
theorem dX7_init_131 : decode cX7_init 131 = .ok (.putfield 67, 3) := by decide +kernel
theorem dX7_init_134 : decode cX7_init 134 = .ok (.aload_n 0, 1) := by decide +kernel
theorem dX7_init_135 : decode cX7_init 135 = .ok (.bipush 7, 2) := by decide +kernel
theorem dX7_init_137 : decode cX7_init 137 = .ok (.newarray .int, 2) := by decide +kernel
theorem dX7_init_139 : decode cX7_init 139 = .ok (.putfield 70, 3) := by decide +kernel
theorem dX7_init_142 : decode cX7_init 142 = .ok (.aload_n 0, 1) := by decide +kernel
theorem dX7_init_143 : decode cX7_init 143 = .ok (.bipush 7, 2) := by decide +kernel
theorem dX7_init_145 : decode cX7_init 145 = .ok (.newarray .int, 2) := by decide +kernel
theorem dX7_init_147 : decode cX7_init 147 = .ok (.putfield 73, 3) := by decide +kernel
theorem dX7_init_150 : decode cX7_init 150 = .ok (.aload_n 0, 1) := by decide +kernel
theorem dX7_init_151 : decode cX7_init 151 = .ok (.bipush 7, 2) := by decide +kernel
theorem dX7_init_153 : decode cX7_init 153 = .ok (.newarray .long, 2) := by decide +kernel
theorem dX7_init_155 : decode cX7_init 155 = .ok (.putfield 76, 3) := by decide +kernel
theorem dX7_init_158 : decode cX7_init 158 = .ok (.aload_n 0, 1) := by decide +kernel
theorem dX7_init_159 : decode cX7_init 159 = .ok (.iconst (-1), 1) := by decide +kernel
theorem dX7_init_160 : decode cX7_init 160 = .ok (.putfield 79, 3) := by decide +kernel
theorem dX7_init_163 : decode cX7_init 163 = .ok (.aload_n 0, 1) := by decide +kernel
theorem dX7_init_164 : decode cX7_init 164 = .ok (.iconst 0, 1) := by decide +kernel
theorem dX7_init_165 : decode cX7_init 165 = .ok (.putfield 82, 3) := by decide +kernel
theorem dX7_init_168 : decode cX7_init 168 = .ok (.aload_n 0, 1) := by decide +kernel
theorem dX7_init_169 : decode cX7_init 169 = .ok (.bipush 40, 2) := by decide +kernel
theorem dX7_init_171 : decode cX7_init 171 = .ok (.newarray .int, 2) := by decide +kernel
theorem dX7_init_173 : decode cX7_init 173 = .ok (.putfield 85, 3) := by decide +kernel
theorem dX7_init_176 : decode cX7_init 176 = .ok (.aload_n 0, 1) := by decide +kernel
theorem dX7_init_177 : decode cX7_init 177 = .ok (.sipush 240, 3) := by decide +kernel
theorem dX7_init_180 : decode cX7_init 180 = .ok (.newarray .int, 2) := by decide +kernel
theorem dX7_init_182 : decode cX7_init 182 = .ok (.putfield 88, 3) := by decide +kernel
theorem dX7_init_185 : decode cX7_init 185 = .ok (.aload_n 0, 1) := by decide +kernel
theorem dX7_init_186 : decode cX7_init 186 = .ok (.sipush 240, 3) := by decide +kernel
theorem dX7_init_189 : decode cX7_init 189 = .ok (.newarray .int, 2) := by decide +kernel
theorem dX7_init_191 : decode cX7_init 191 = .ok (.putfield 91, 3) := by decide +kernel
theorem dX7_init_194 : decode cX7_init 194 = .ok (.aload_n 0, 1) := by decide +kernel
theorem dX7_init_195 : decode cX7_init 195 = .ok (.sipush 240, 3) := by decide +kernel
theorem dX7_init_198 : decode cX7_init 198 = .ok (.newarray .long, 2) := by decide +kernel
theorem dX7_init_200 : decode cX7_init 200 = .ok (.putfield 94, 3) := by decide +kernel
theorem dX7_init_203 : decode cX7_init 203 = .ok (.aload_n 0, 1) := by decide +kernel
theorem dX7_init_204 : decode cX7_init 204 = .ok (.sipush 320, 3) := by decide +kernel
theorem dX7_init_207 : decode cX7_init 207 = .ok (.newarray .int, 2) := by decide +kernel
theorem dX7_init_209 : decode cX7_init 209 = .ok (.putfield 97, 3) := by decide +kernel
theorem dX7_init_212 : decode cX7_init 212 = .ok (.aload_n 0, 1) := by decide +kernel
theorem dX7_init_213 : decode cX7_init 213 = .ok (.iconst 0, 1) := by decide +kernel
theorem dX7_init_214 : decode cX7_init 214 = .ok (.putfield 100, 3) := by decide +kernel
theorem dX7_init_217 : decode cX7_init 217 = .ok (.aload_n 0, 1) := by decide +kernel
theorem dX7_init_218 : decode cX7_init 218 = .ok (.bipush 61, 2) := by decide +kernel
theorem dX7_init_220 : decode cX7_init 220 = .ok (.newarray .int, 2) := by decide +kernel
theorem dX7_init_222 : decode cX7_init 222 = .ok (.putfield 103, 3) := by decide +kernel
theorem dX7_init_225 : decode cX7_init 225 = .ok (.aload_n 0, 1) := by decide +kernel
theorem dX7_init_226 : decode cX7_init 226 = .ok (.iload_n 1, 1) := by decide +kernel
theorem dX7_init_227 : decode cX7_init 227 = .ok (.ifCond .ge 7, 3) := by decide +kernel
theorem dX7_init_230 : decode cX7_init 230 = .ok (.iconst 0, 1) := by decide +kernel
theorem dX7_init_231 : decode cX7_init 231 = .ok (.goto 13, 3) := by decide +kernel
theorem dX7_init_234 : decode cX7_init 234 = .ok (.iload_n 1, 1) := by decide +kernel
theorem dX7_init_235 : decode cX7_init 235 = .ok (.iconst 2, 1) := by decide +kernel
theorem dX7_init_236 : decode cX7_init 236 = .ok (.if_icmp .le 7, 3) := by decide +kernel
theorem dX7_init_239 : decode cX7_init 239 = .ok (.iconst 2, 1) := by decide +kernel
theorem dX7_init_240 : decode cX7_init 240 = .ok (.goto 4, 3) := by decide +kernel
theorem dX7_init_243 : decode cX7_init 243 = .ok (.iload_n 1, 1) := by decide +kernel
theorem dX7_init_244 : decode cX7_init 244 = .ok (.putfield 106, 3) := by decide +kernel
theorem dX7_init_247 : decode cX7_init 247 = .ok (.return_, 1) := by decide +kernel
theorem dX7_isKnown_0 : decode cX7_isKnown 0 = .ok (.iload_n 1, 1) := by decide +kernel
theorem dX7_isKnown_1 : decode cX7_isKnown 1 = .ok (.bipush 9, 2) := by decide +kernel
theorem dX7_isKnown_3 : decode cX7_isKnown 3 = .ok (.if_icmp .le 22, 3) := by decide +kernel
theorem dX7_isKnown_6 : decode cX7_isKnown 6 = .ok (.iload_n 1, 1) := by decide +kernel
theorem dX7_isKnown_7 : decode cX7_isKnown 7 = .ok (.bipush 100, 2) := by decide +kernel
theorem dX7_isKnown_9 : decode cX7_isKnown 9 = .ok (.if_icmp .ge 16, 3) := by decide +kernel
theorem dX7_isKnown_12 : decode cX7_isKnown 12 = .ok (.aload_n 0, 1) := by decide +kernel
theorem dX7_isKnown_13 : decode cX7_isKnown 13 = .ok (.getfield 13, 3) := by decide +kernel
theorem dX7_isKnown_16 : decode cX7_isKnown 16 = .ok (.iload_n 1, 1) := by decide +kernel
theorem dX7_isKnown_17 : decode cX7_isKnown 17 = .ok (.iaload, 1) := by decide +kernel
theorem dX7_isKnown_18 : decode cX7_isKnown 18 = .ok (.ifCond .le 7, 3) := by decide +kernel
theorem dX7_isKnown_21 : decode cX7_isKnown 21 = .ok (.iconst 1, 1) := by decide +kernel
theorem dX7_isKnown_22 : decode cX7_isKnown 22 = .ok (.goto 4, 3) := by decide +kernel
theorem dX7_isKnown_25 : decode cX7_isKnown 25 = .ok (.iconst 0, 1) := by decide +kernel
theorem dX7_isKnown_26 : decode cX7_isKnown 26 = .ok (.ireturn, 1) := by decide +kernel
theorem dX7_prefixes_0 : decode cX7_prefixes 0 = .ok (.iconst 0, 1) := by decide +kernel
theorem dX7_prefixes_1 : decode cX7_prefixes 1 = .ok (.istore_n 1, 1) := by decide +kernel
theorem dX7_prefixes_2 : decode cX7_prefixes 2 = .ok (.bipush 10, 2) := by decide +kernel
theorem dX7_prefixes_4 : decode cX7_prefixes 4 = .ok (.istore_n 2, 1) := by decide +kernel
theorem dX7_prefixes_5 : decode cX7_prefixes 5 = .ok (.iload_n 2, 1) := by decide +kernel
theorem dX7_prefixes_6 : decode cX7_prefixes 6 = .ok (.bipush 100, 2) := by decide +kernel
theorem dX7_prefixes_8 : decode cX7_prefixes 8 = .ok (.if_icmp .ge 26, 3) := by decide +kernel
theorem dX7_prefixes_11 : decode cX7_prefixes 11 = .ok (.iload_n 1, 1) := by decide +kernel
theorem dX7_prefixes_12 : decode cX7_prefixes 12 = .ok (.aload_n 0, 1) := by decide +kernel
theorem dX7_prefixes_13 : decode cX7_prefixes 13 = .ok (.getfield 13, 3) := by decide +kernel
theorem dX7_prefixes_16 : decode cX7_prefixes 16 = .ok (.iload_n 2, 1) := by decide +kernel
theorem dX7_prefixes_17 : decode cX7_prefixes 17 = .ok (.iaload, 1) := by decide +kernel
theorem dX7_prefixes_18 : decode cX7_prefixes 18 = .ok (.ifCond .le 7, 3) := by decide +kernel
theorem dX7_prefixes_21 : decode cX7_prefixes 21 = .ok (.iconst 1, 1) := by decide +kernel
theorem dX7_prefixes_22 : decode cX7_prefixes 22 = .ok (.goto 4, 3) := by decide +kernel
theorem dX7_prefixes_25 : decode cX7_prefixes 25 = .ok (.iconst 0, 1) := by decide +kernel
theorem dX7_prefixes_26 : decode cX7_prefixes 26 = .ok (.iadd, 1) := by decide +kernel
theorem dX7_prefixes_27 : decode cX7_prefixes 27 = .ok (.istore_n 1, 1) := by decide +kernel
theorem dX7_prefixes_28 : decode cX7_prefixes 28 = .ok (.iinc 2 1, 3) := by decide +kernel
theorem dX7_prefixes_31 : decode cX7_prefixes 31 = .ok (.goto (-26), 3) := by decide +kernel
theorem dX7_prefixes_34 : decode cX7_prefixes 34 = .ok (.iload_n 1, 1) := by decide +kernel
theorem dX7_prefixes_35 : decode cX7_prefixes 35 = .ok (.ireturn, 1) := by decide +kernel
theorem dX7_bit_0 : decode cX7_bit 0 = .ok (.iload_n 0, 1) := by decide +kernel
theorem dX7_bit_1 : decode cX7_bit 1 = .ok (.bipush 8, 2) := by decide +kernel
theorem dX7_bit_3 : decode cX7_bit 3 = .ok (.idiv, 1) := by decide +kernel
theorem dX7_bit_4 : decode cX7_bit 4 = .ok (.iconst 2, 1) := by decide +kernel
theorem dX7_bit_5 : decode cX7_bit 5 = .ok (.irem, 1) := by decide +kernel
theorem dX7_bit_6 : decode cX7_bit 6 = .ok (.istore_n 2, 1) := by decide +kernel
theorem dX7_bit_7 : decode cX7_bit 7 = .ok (.iload_n 0, 1) := by decide +kernel
theorem dX7_bit_8 : decode cX7_bit 8 = .ok (.iconst 4, 1) := by decide +kernel
theorem dX7_bit_9 : decode cX7_bit 9 = .ok (.idiv, 1) := by decide +kernel
theorem dX7_bit_10 : decode cX7_bit 10 = .ok (.iconst 2, 1) := by decide +kernel
theorem dX7_bit_11 : decode cX7_bit 11 = .ok (.irem, 1) := by decide +kernel
theorem dX7_bit_12 : decode cX7_bit 12 = .ok (.istore_n 3, 1) := by decide +kernel
theorem dX7_bit_13 : decode cX7_bit 13 = .ok (.iload_n 0, 1) := by decide +kernel
theorem dX7_bit_14 : decode cX7_bit 14 = .ok (.iconst 2, 1) := by decide +kernel
theorem dX7_bit_15 : decode cX7_bit 15 = .ok (.idiv, 1) := by decide +kernel
theorem dX7_bit_16 : decode cX7_bit 16 = .ok (.iconst 2, 1) := by decide +kernel
theorem dX7_bit_17 : decode cX7_bit 17 = .ok (.irem, 1) := by decide +kernel
theorem dX7_bit_18 : decode cX7_bit 18 = .ok (.istore 4, 2) := by decide +kernel
theorem dX7_bit_20 : decode cX7_bit 20 = .ok (.iload_n 0, 1) := by decide +kernel
theorem dX7_bit_21 : decode cX7_bit 21 = .ok (.iconst 2, 1) := by decide +kernel
theorem dX7_bit_22 : decode cX7_bit 22 = .ok (.irem, 1) := by decide +kernel
theorem dX7_bit_23 : decode cX7_bit 23 = .ok (.istore 5, 2) := by decide +kernel
theorem dX7_bit_25 : decode cX7_bit 25 = .ok (.iload_n 1, 1) := by decide +kernel
theorem dX7_bit_26 : decode cX7_bit 26 = .ok (.iconst 4, 1) := by decide +kernel
theorem dX7_bit_27 : decode cX7_bit 27 = .ok (.if_icmp .ne 12, 3) := by decide +kernel
theorem dX7_bit_30 : decode cX7_bit 30 = .ok (.iload_n 2, 1) := by decide +kernel
theorem dX7_bit_31 : decode cX7_bit 31 = .ok (.iload_n 3, 1) := by decide +kernel
theorem dX7_bit_32 : decode cX7_bit 32 = .ok (.iadd, 1) := by decide +kernel
theorem dX7_bit_33 : decode cX7_bit 33 = .ok (.iload 5, 2) := by decide +kernel
theorem dX7_bit_35 : decode cX7_bit 35 = .ok (.iadd, 1) := by decide +kernel
theorem dX7_bit_36 : decode cX7_bit 36 = .ok (.iconst 2, 1) := by decide +kernel
theorem dX7_bit_37 : decode cX7_bit 37 = .ok (.irem, 1) := by decide +kernel
theorem dX7_bit_38 : decode cX7_bit 38 = .ok (.ireturn, 1) := by decide +kernel
theorem dX7_bit_39 : decode cX7_bit 39 = .ok (.iload_n 1, 1) := by decide +kernel
theorem dX7_bit_40 : decode cX7_bit 40 = .ok (.iconst 5, 1) := by decide +kernel
theorem dX7_bit_41 : decode cX7_bit 41 = .ok (.if_icmp .ne 13, 3) := by decide +kernel
theorem dX7_bit_44 : decode cX7_bit 44 = .ok (.iload_n 2, 1) := by decide +kernel
theorem dX7_bit_45 : decode cX7_bit 45 = .ok (.iload 4, 2) := by decide +kernel
theorem dX7_bit_47 : decode cX7_bit 47 = .ok (.iadd, 1) := by decide +kernel
theorem dX7_bit_48 : decode cX7_bit 48 = .ok (.iload 5, 2) := by decide +kernel
theorem dX7_bit_50 : decode cX7_bit 50 = .ok (.iadd, 1) := by decide +kernel
theorem dX7_bit_51 : decode cX7_bit 51 = .ok (.iconst 2, 1) := by decide +kernel
theorem dX7_bit_52 : decode cX7_bit 52 = .ok (.irem, 1) := by decide +kernel
theorem dX7_bit_53 : decode cX7_bit 53 = .ok (.ireturn, 1) := by decide +kernel
theorem dX7_bit_54 : decode cX7_bit 54 = .ok (.iload_n 1, 1) := by decide +kernel
theorem dX7_bit_55 : decode cX7_bit 55 = .ok (.bipush 6, 2) := by decide +kernel
theorem dX7_bit_57 : decode cX7_bit 57 = .ok (.if_icmp .ne 13, 3) := by decide +kernel
theorem dX7_bit_60 : decode cX7_bit 60 = .ok (.iload_n 3, 1) := by decide +kernel
theorem dX7_bit_61 : decode cX7_bit 61 = .ok (.iload 4, 2) := by decide +kernel
theorem dX7_bit_63 : decode cX7_bit 63 = .ok (.iadd, 1) := by decide +kernel
theorem dX7_bit_64 : decode cX7_bit 64 = .ok (.iload 5, 2) := by decide +kernel
theorem dX7_bit_66 : decode cX7_bit 66 = .ok (.iadd, 1) := by decide +kernel
theorem dX7_bit_67 : decode cX7_bit 67 = .ok (.iconst 2, 1) := by decide +kernel
theorem dX7_bit_68 : decode cX7_bit 68 = .ok (.irem, 1) := by decide +kernel
theorem dX7_bit_69 : decode cX7_bit 69 = .ok (.ireturn, 1) := by decide +kernel
theorem dX7_bit_70 : decode cX7_bit 70 = .ok (.iload_n 1, 1) := by decide +kernel
theorem dX7_bit_71 : decode cX7_bit 71 = .ok (.ifCond .ne 7, 3) := by decide +kernel
theorem dX7_bit_74 : decode cX7_bit 74 = .ok (.iload_n 2, 1) := by decide +kernel
theorem dX7_bit_75 : decode cX7_bit 75 = .ok (.goto 24, 3) := by decide +kernel
theorem dX7_bit_78 : decode cX7_bit 78 = .ok (.iload_n 1, 1) := by decide +kernel
theorem dX7_bit_79 : decode cX7_bit 79 = .ok (.iconst 1, 1) := by decide +kernel
theorem dX7_bit_80 : decode cX7_bit 80 = .ok (.if_icmp .ne 7, 3) := by decide +kernel
theorem dX7_bit_83 : decode cX7_bit 83 = .ok (.iload_n 3, 1) := by decide +kernel
theorem dX7_bit_84 : decode cX7_bit 84 = .ok (.goto 15, 3) := by decide +kernel
theorem dX7_bit_87 : decode cX7_bit 87 = .ok (.iload_n 1, 1) := by decide +kernel
theorem dX7_bit_88 : decode cX7_bit 88 = .ok (.iconst 2, 1) := by decide +kernel
theorem dX7_bit_89 : decode cX7_bit 89 = .ok (.if_icmp .ne 8, 3) := by decide +kernel
theorem dX7_bit_92 : decode cX7_bit 92 = .ok (.iload 4, 2) := by decide +kernel
theorem dX7_bit_94 : decode cX7_bit 94 = .ok (.goto 5, 3) := by decide +kernel
theorem dX7_bit_97 : decode cX7_bit 97 = .ok (.iload 5, 2) := by decide +kernel
