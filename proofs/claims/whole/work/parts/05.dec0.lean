theorem dX0_init_0 : decode cX0_init 0 = .ok (.aload_n 0, 1) := by decide +kernel
theorem dX0_init_1 : decode cX0_init 1 = .ok (.invokespecial 3, 3) := by decide +kernel
theorem dX0_init_4 : decode cX0_init 4 = .ok (.aload_n 0, 1) := by decide +kernel
theorem dX0_init_5 : decode cX0_init 5 = .ok (.iload_n 1, 1) := by decide +kernel
theorem dX0_init_6 : decode cX0_init 6 = .ok (.putfield 9, 3) := by decide +kernel
theorem dX0_init_9 : decode cX0_init 9 = .ok (.aload_n 0, 1) := by decide +kernel
theorem dX0_init_10 : decode cX0_init 10 = .ok (.iload_n 1, 1) := by decide +kernel
theorem dX0_init_11 : decode cX0_init 11 = .ok (.ifCond .ne 7, 3) := by decide +kernel
theorem dX0_init_14 : decode cX0_init 14 = .ok (.iconst 4, 1) := by decide +kernel
theorem dX0_init_15 : decode cX0_init 15 = .ok (.goto 5, 3) := by decide +kernel
theorem dX0_init_18 : decode cX0_init 18 = .ok (.bipush 7, 2) := by decide +kernel
theorem dX0_init_20 : decode cX0_init 20 = .ok (.putfield 15, 3) := by decide +kernel
theorem dX0_init_23 : decode cX0_init 23 = .ok (.aload_n 0, 1) := by decide +kernel
theorem dX0_init_24 : decode cX0_init 24 = .ok (.iconst 0, 1) := by decide +kernel
theorem dX0_init_25 : decode cX0_init 25 = .ok (.putfield 18, 3) := by decide +kernel
theorem dX0_init_28 : decode cX0_init 28 = .ok (.return_, 1) := by decide +kernel
theorem dX0_form_0 : decode cX0_form 0 = .ok (.aload_n 0, 1) := by decide +kernel
theorem dX0_form_1 : decode cX0_form 1 = .ok (.getfield 9, 3) := by decide +kernel
theorem dX0_form_4 : decode cX0_form 4 = .ok (.ireturn, 1) := by decide +kernel
theorem dX0_mendedLast_0 : decode cX0_mendedLast 0 = .ok (.aload_n 0, 1) := by decide +kernel
theorem dX0_mendedLast_1 : decode cX0_mendedLast 1 = .ok (.getfield 18, 3) := by decide +kernel
theorem dX0_mendedLast_4 : decode cX0_mendedLast 4 = .ok (.ireturn, 1) := by decide +kernel
theorem dX0_encode_0 : decode cX0_encode 0 = .ok (.aload_n 1, 1) := by decide +kernel
theorem dX0_encode_1 : decode cX0_encode 1 = .ok (.invokevirtual 21, 3) := by decide +kernel
theorem dX0_encode_4 : decode cX0_encode 4 = .ok (.istore_n 3, 1) := by decide +kernel
theorem dX0_encode_5 : decode cX0_encode 5 = .ok (.aload_n 2, 1) := by decide +kernel
theorem dX0_encode_6 : decode cX0_encode 6 = .ok (.iload_n 3, 1) := by decide +kernel
theorem dX0_encode_7 : decode cX0_encode 7 = .ok (.aload_n 0, 1) := by decide +kernel
theorem dX0_encode_8 : decode cX0_encode 8 = .ok (.getfield 15, 3) := by decide +kernel
theorem dX0_encode_11 : decode cX0_encode 11 = .ok (.imul, 1) := by decide +kernel
theorem dX0_encode_12 : decode cX0_encode 12 = .ok (.invokevirtual 27, 3) := by decide +kernel
theorem dX0_encode_15 : decode cX0_encode 15 = .ok (.iconst 0, 1) := by decide +kernel
theorem dX0_encode_16 : decode cX0_encode 16 = .ok (.istore 4, 2) := by decide +kernel
theorem dX0_encode_18 : decode cX0_encode 18 = .ok (.iload 4, 2) := by decide +kernel
theorem dX0_encode_20 : decode cX0_encode 20 = .ok (.iload_n 3, 1) := by decide +kernel
theorem dX0_encode_21 : decode cX0_encode 21 = .ok (.if_icmp .ge 66, 3) := by decide +kernel
theorem dX0_encode_24 : decode cX0_encode 24 = .ok (.aload_n 0, 1) := by decide +kernel
theorem dX0_encode_25 : decode cX0_encode 25 = .ok (.aload_n 1, 1) := by decide +kernel
theorem dX0_encode_26 : decode cX0_encode 26 = .ok (.iload 4, 2) := by decide +kernel
theorem dX0_encode_28 : decode cX0_encode 28 = .ok (.invokevirtual 31, 3) := by decide +kernel
theorem dX0_encode_31 : decode cX0_encode 31 = .ok (.invokevirtual 35, 3) := by decide +kernel
theorem dX0_encode_34 : decode cX0_encode 34 = .ok (.istore 5, 2) := by decide +kernel
theorem dX0_encode_36 : decode cX0_encode 36 = .ok (.iconst 0, 1) := by decide +kernel
theorem dX0_encode_37 : decode cX0_encode 37 = .ok (.istore 6, 2) := by decide +kernel
theorem dX0_encode_39 : decode cX0_encode 39 = .ok (.iload 6, 2) := by decide +kernel
theorem dX0_encode_41 : decode cX0_encode 41 = .ok (.aload_n 0, 1) := by decide +kernel
theorem dX0_encode_42 : decode cX0_encode 42 = .ok (.getfield 15, 3) := by decide +kernel
theorem dX0_encode_45 : decode cX0_encode 45 = .ok (.if_icmp .ge 36, 3) := by decide +kernel
theorem dX0_encode_48 : decode cX0_encode 48 = .ok (.aload_n 2, 1) := by decide +kernel
theorem dX0_encode_49 : decode cX0_encode 49 = .ok (.aload_n 0, 1) := by decide +kernel
theorem dX0_encode_50 : decode cX0_encode 50 = .ok (.iload 4, 2) := by decide +kernel
theorem dX0_encode_52 : decode cX0_encode 52 = .ok (.iload 6, 2) := by decide +kernel
theorem dX0_encode_54 : decode cX0_encode 54 = .ok (.iload_n 3, 1) := by decide +kernel
theorem dX0_encode_55 : decode cX0_encode 55 = .ok (.invokevirtual 38, 3) := by decide +kernel
theorem dX0_encode_58 : decode cX0_encode 58 = .ok (.iload 5, 2) := by decide +kernel
theorem dX0_encode_60 : decode cX0_encode 60 = .ok (.aload_n 0, 1) := by decide +kernel
theorem dX0_encode_61 : decode cX0_encode 61 = .ok (.getfield 15, 3) := by decide +kernel
theorem dX0_encode_64 : decode cX0_encode 64 = .ok (.iconst 1, 1) := by decide +kernel
theorem dX0_encode_65 : decode cX0_encode 65 = .ok (.isub, 1) := by decide +kernel
theorem dX0_encode_66 : decode cX0_encode 66 = .ok (.iload 6, 2) := by decide +kernel
theorem dX0_encode_68 : decode cX0_encode 68 = .ok (.isub, 1) := by decide +kernel
theorem dX0_encode_69 : decode cX0_encode 69 = .ok (.ishr, 1) := by decide +kernel
theorem dX0_encode_70 : decode cX0_encode 70 = .ok (.iconst 1, 1) := by decide +kernel
theorem dX0_encode_71 : decode cX0_encode 71 = .ok (.iand, 1) := by decide +kernel
theorem dX0_encode_72 : decode cX0_encode 72 = .ok (.invokevirtual 42, 3) := by decide +kernel
theorem dX0_encode_75 : decode cX0_encode 75 = .ok (.iinc 6 1, 3) := by decide +kernel
theorem dX0_encode_78 : decode cX0_encode 78 = .ok (.goto (-39), 3) := by decide +kernel
theorem dX0_encode_81 : decode cX0_encode 81 = .ok (.iinc 4 1, 3) := by decide +kernel
theorem dX0_encode_84 : decode cX0_encode 84 = .ok (.goto (-66), 3) := by decide +kernel
theorem dX0_encode_87 : decode cX0_encode 87 = .ok (.return_, 1) := by decide +kernel
theorem dX0_decode_0 : decode cX0_decode 0 = .ok (.aload_n 0, 1) := by decide +kernel
theorem dX0_decode_1 : decode cX0_decode 1 = .ok (.iconst 0, 1) := by decide +kernel
theorem dX0_decode_2 : decode cX0_decode 2 = .ok (.putfield 18, 3) := by decide +kernel
theorem dX0_decode_5 : decode cX0_decode 5 = .ok (.aload_n 2, 1) := by decide +kernel
theorem dX0_decode_6 : decode cX0_decode 6 = .ok (.invokevirtual 46, 3) := by decide +kernel
theorem dX0_decode_9 : decode cX0_decode 9 = .ok (.aload_n 0, 1) := by decide +kernel
theorem dX0_decode_10 : decode cX0_decode 10 = .ok (.getfield 9, 3) := by decide +kernel
theorem dX0_decode_13 : decode cX0_decode 13 = .ok (.ifCond .ne 12, 3) := by decide +kernel
theorem dX0_decode_16 : decode cX0_decode 16 = .ok (.aload_n 1, 1) := by decide +kernel
theorem dX0_decode_17 : decode cX0_decode 17 = .ok (.invokevirtual 21, 3) := by decide +kernel
theorem dX0_decode_20 : decode cX0_decode 20 = .ok (.iconst 4, 1) := by decide +kernel
theorem dX0_decode_21 : decode cX0_decode 21 = .ok (.idiv, 1) := by decide +kernel
theorem dX0_decode_22 : decode cX0_decode 22 = .ok (.goto 10, 3) := by decide +kernel
theorem dX0_decode_25 : decode cX0_decode 25 = .ok (.aload_n 1, 1) := by decide +kernel
theorem dX0_decode_26 : decode cX0_decode 26 = .ok (.invokevirtual 21, 3) := by decide +kernel
theorem dX0_decode_29 : decode cX0_decode 29 = .ok (.bipush 7, 2) := by decide +kernel
theorem dX0_decode_31 : decode cX0_decode 31 = .ok (.idiv, 1) := by decide +kernel
theorem dX0_decode_32 : decode cX0_decode 32 = .ok (.istore_n 3, 1) := by decide +kernel
theorem dX0_decode_33 : decode cX0_decode 33 = .ok (.iload_n 3, 1) := by decide +kernel
theorem dX0_decode_34 : decode cX0_decode 34 = .ok (.aload_n 0, 1) := by decide +kernel
theorem dX0_decode_35 : decode cX0_decode 35 = .ok (.getfield 15, 3) := by decide +kernel
theorem dX0_decode_38 : decode cX0_decode 38 = .ok (.imul, 1) := by decide +kernel
theorem dX0_decode_39 : decode cX0_decode 39 = .ok (.aload_n 1, 1) := by decide +kernel
theorem dX0_decode_40 : decode cX0_decode 40 = .ok (.invokevirtual 21, 3) := by decide +kernel
theorem dX0_decode_43 : decode cX0_decode 43 = .ok (.if_icmp .eq 5, 3) := by decide +kernel
theorem dX0_decode_46 : decode cX0_decode 46 = .ok (.iconst 0, 1) := by decide +kernel
theorem dX0_decode_47 : decode cX0_decode 47 = .ok (.ireturn, 1) := by decide +kernel
theorem dX0_decode_48 : decode cX0_decode 48 = .ok (.iconst 0, 1) := by decide +kernel
theorem dX0_decode_49 : decode cX0_decode 49 = .ok (.istore 4, 2) := by decide +kernel
theorem dX0_decode_51 : decode cX0_decode 51 = .ok (.iload 4, 2) := by decide +kernel
theorem dX0_decode_53 : decode cX0_decode 53 = .ok (.iload_n 3, 1) := by decide +kernel
theorem dX0_decode_54 : decode cX0_decode 54 = .ok (.if_icmp .ge 39, 3) := by decide +kernel
theorem dX0_decode_57 : decode cX0_decode 57 = .ok (.aload_n 0, 1) := by decide +kernel
theorem dX0_decode_58 : decode cX0_decode 58 = .ok (.aload_n 1, 1) := by decide +kernel
theorem dX0_decode_59 : decode cX0_decode 59 = .ok (.iload 4, 2) := by decide +kernel
theorem dX0_decode_61 : decode cX0_decode 61 = .ok (.iload_n 3, 1) := by decide +kernel
theorem dX0_decode_62 : decode cX0_decode 62 = .ok (.invokevirtual 49, 3) := by decide +kernel
theorem dX0_decode_65 : decode cX0_decode 65 = .ok (.istore 5, 2) := by decide +kernel
theorem dX0_decode_67 : decode cX0_decode 67 = .ok (.iload 5, 2) := by decide +kernel
theorem dX0_decode_69 : decode cX0_decode 69 = .ok (.ifCond .lt 10, 3) := by decide +kernel
theorem dX0_decode_72 : decode cX0_decode 72 = .ok (.iload 5, 2) := by decide +kernel
theorem dX0_decode_74 : decode cX0_decode 74 = .ok (.bipush 10, 2) := by decide +kernel
theorem dX0_decode_76 : decode cX0_decode 76 = .ok (.if_icmp .le 5, 3) := by decide +kernel
theorem dX0_decode_79 : decode cX0_decode 79 = .ok (.iconst 0, 1) := by decide +kernel
theorem dX0_decode_80 : decode cX0_decode 80 = .ok (.ireturn, 1) := by decide +kernel
theorem dX0_decode_81 : decode cX0_decode 81 = .ok (.aload_n 2, 1) := by decide +kernel
theorem dX0_decode_82 : decode cX0_decode 82 = .ok (.iload 5, 2) := by decide +kernel
theorem dX0_decode_84 : decode cX0_decode 84 = .ok (.invokevirtual 53, 3) := by decide +kernel
theorem dX0_decode_87 : decode cX0_decode 87 = .ok (.iinc 4 1, 3) := by decide +kernel
theorem dX0_decode_90 : decode cX0_decode 90 = .ok (.goto (-39), 3) := by decide +kernel
theorem dX0_decode_93 : decode cX0_decode 93 = .ok (.iconst 1, 1) := by decide +kernel
theorem dX0_decode_94 : decode cX0_decode 94 = .ok (.ireturn, 1) := by decide +kernel
theorem dX0_decodeSign_0 : decode cX0_decodeSign 0 = .ok (.iconst 0, 1) := by decide +kernel
theorem dX0_decodeSign_1 : decode cX0_decodeSign 1 = .ok (.istore 4, 2) := by decide +kernel
theorem dX0_decodeSign_3 : decode cX0_decodeSign 3 = .ok (.iconst 0, 1) := by decide +kernel
theorem dX0_decodeSign_4 : decode cX0_decodeSign 4 = .ok (.istore 5, 2) := by decide +kernel
theorem dX0_decodeSign_6 : decode cX0_decodeSign 6 = .ok (.iconst 0, 1) := by decide +kernel
theorem dX0_decodeSign_7 : decode cX0_decodeSign 7 = .ok (.istore 6, 2) := by decide +kernel
theorem dX0_decodeSign_9 : decode cX0_decodeSign 9 = .ok (.iload 6, 2) := by decide +kernel
theorem dX0_decodeSign_11 : decode cX0_decodeSign 11 = .ok (.aload_n 0, 1) := by decide +kernel
theorem dX0_decodeSign_12 : decode cX0_decodeSign 12 = .ok (.getfield 15, 3) := by decide +kernel
theorem dX0_decodeSign_15 : decode cX0_decodeSign 15 = .ok (.if_icmp .ge 59, 3) := by decide +kernel
theorem dX0_decodeSign_18 : decode cX0_decodeSign 18 = .ok (.aload_n 1, 1) := by decide +kernel
theorem dX0_decodeSign_19 : decode cX0_decodeSign 19 = .ok (.aload_n 0, 1) := by decide +kernel
theorem dX0_decodeSign_20 : decode cX0_decodeSign 20 = .ok (.iload_n 2, 1) := by decide +kernel
theorem dX0_decodeSign_21 : decode cX0_decodeSign 21 = .ok (.iload 6, 2) := by decide +kernel
theorem dX0_decodeSign_23 : decode cX0_decodeSign 23 = .ok (.iload_n 3, 1) := by decide +kernel
theorem dX0_decodeSign_24 : decode cX0_decodeSign 24 = .ok (.invokevirtual 38, 3) := by decide +kernel
theorem dX0_decodeSign_27 : decode cX0_decodeSign 27 = .ok (.invokevirtual 31, 3) := by decide +kernel
theorem dX0_decodeSign_30 : decode cX0_decodeSign 30 = .ok (.istore 7, 2) := by decide +kernel
theorem dX0_decodeSign_32 : decode cX0_decodeSign 32 = .ok (.iload 4, 2) := by decide +kernel
theorem dX0_decodeSign_34 : decode cX0_decodeSign 34 = .ok (.iconst 2, 1) := by decide +kernel
theorem dX0_decodeSign_35 : decode cX0_decodeSign 35 = .ok (.imul, 1) := by decide +kernel
theorem dX0_decodeSign_36 : decode cX0_decodeSign 36 = .ok (.iload 7, 2) := by decide +kernel
theorem dX0_decodeSign_38 : decode cX0_decodeSign 38 = .ok (.iconst 1, 1) := by decide +kernel
theorem dX0_decodeSign_39 : decode cX0_decodeSign 39 = .ok (.if_icmp .ne 7, 3) := by decide +kernel
theorem dX0_decodeSign_42 : decode cX0_decodeSign 42 = .ok (.iconst 1, 1) := by decide +kernel
theorem dX0_decodeSign_43 : decode cX0_decodeSign 43 = .ok (.goto 4, 3) := by decide +kernel
theorem dX0_decodeSign_46 : decode cX0_decodeSign 46 = .ok (.iconst 0, 1) := by decide +kernel
theorem dX0_decodeSign_47 : decode cX0_decodeSign 47 = .ok (.iadd, 1) := by decide +kernel
theorem dX0_decodeSign_48 : decode cX0_decodeSign 48 = .ok (.istore 4, 2) := by decide +kernel
theorem dX0_decodeSign_50 : decode cX0_decodeSign 50 = .ok (.iload 5, 2) := by decide +kernel
theorem dX0_decodeSign_52 : decode cX0_decodeSign 52 = .ok (.iconst 2, 1) := by decide +kernel
theorem dX0_decodeSign_53 : decode cX0_decodeSign 53 = .ok (.imul, 1) := by decide +kernel
theorem dX0_decodeSign_54 : decode cX0_decodeSign 54 = .ok (.iload 7, 2) := by decide +kernel
theorem dX0_decodeSign_56 : decode cX0_decodeSign 56 = .ok (.iconst 2, 1) := by decide +kernel
theorem dX0_decodeSign_57 : decode cX0_decodeSign 57 = .ok (.if_icmp .ne 7, 3) := by decide +kernel
theorem dX0_decodeSign_60 : decode cX0_decodeSign 60 = .ok (.iconst 1, 1) := by decide +kernel
theorem dX0_decodeSign_61 : decode cX0_decodeSign 61 = .ok (.goto 4, 3) := by decide +kernel
theorem dX0_decodeSign_64 : decode cX0_decodeSign 64 = .ok (.iconst 0, 1) := by decide +kernel
theorem dX0_decodeSign_65 : decode cX0_decodeSign 65 = .ok (.iadd, 1) := by decide +kernel
theorem dX0_decodeSign_66 : decode cX0_decodeSign 66 = .ok (.istore 5, 2) := by decide +kernel
theorem dX0_decodeSign_68 : decode cX0_decodeSign 68 = .ok (.iinc 6 1, 3) := by decide +kernel
theorem dX0_decodeSign_71 : decode cX0_decodeSign 71 = .ok (.goto (-62), 3) := by decide +kernel
theorem dX0_decodeSign_74 : decode cX0_decodeSign 74 = .ok (.aload_n 0, 1) := by decide +kernel
theorem dX0_decodeSign_75 : decode cX0_decodeSign 75 = .ok (.getfield 9, 3) := by decide +kernel
theorem dX0_decodeSign_78 : decode cX0_decodeSign 78 = .ok (.ifCond .ne 15, 3) := by decide +kernel
theorem dX0_decodeSign_81 : decode cX0_decodeSign 81 = .ok (.iload 5, 2) := by decide +kernel
theorem dX0_decodeSign_83 : decode cX0_decodeSign 83 = .ok (.ifCond .ne 8, 3) := by decide +kernel
theorem dX0_decodeSign_86 : decode cX0_decodeSign 86 = .ok (.iload 4, 2) := by decide +kernel
theorem dX0_decodeSign_88 : decode cX0_decodeSign 88 = .ok (.goto 4, 3) := by decide +kernel
theorem dX0_decodeSign_91 : decode cX0_decodeSign 91 = .ok (.iconst (-1), 1) := by decide +kernel
theorem dX0_decodeSign_92 : decode cX0_decodeSign 92 = .ok (.ireturn, 1) := by decide +kernel
theorem dX0_decodeSign_93 : decode cX0_decodeSign 93 = .ok (.aload_n 0, 1) := by decide +kernel
theorem dX0_decodeSign_94 : decode cX0_decodeSign 94 = .ok (.iload 4, 2) := by decide +kernel
theorem dX0_decodeSign_96 : decode cX0_decodeSign 96 = .ok (.iload 5, 2) := by decide +kernel
theorem dX0_decodeSign_98 : decode cX0_decodeSign 98 = .ok (.invokevirtual 56, 3) := by decide +kernel
theorem dX0_decodeSign_101 : decode cX0_decodeSign 101 = .ok (.ireturn, 1) := by decide +kernel
theorem dX0_mend_0 : decode cX0_mend 0 = .ok (.iload_n 2, 1) := by decide +kernel
theorem dX0_mend_1 : decode cX0_mend 1 = .ok (.invokestatic 60, 3) := by decide +kernel
theorem dX0_mend_4 : decode cX0_mend 4 = .ok (.istore_n 3, 1) := by decide +kernel
theorem dX0_mend_5 : decode cX0_mend 5 = .ok (.iconst 0, 1) := by decide +kernel
theorem dX0_mend_6 : decode cX0_mend 6 = .ok (.istore 4, 2) := by decide +kernel
theorem dX0_mend_8 : decode cX0_mend 8 = .ok (.iload 4, 2) := by decide +kernel
theorem dX0_mend_10 : decode cX0_mend 10 = .ok (.bipush 16, 2) := by decide +kernel
theorem dX0_mend_12 : decode cX0_mend 12 = .ok (.if_icmp .ge 59, 3) := by decide +kernel
theorem dX0_mend_15 : decode cX0_mend 15 = .ok (.aload_n 0, 1) := by decide +kernel
theorem dX0_mend_16 : decode cX0_mend 16 = .ok (.iload 4, 2) := by decide +kernel
theorem dX0_mend_18 : decode cX0_mend 18 = .ok (.invokevirtual 35, 3) := by decide +kernel
theorem dX0_mend_21 : decode cX0_mend 21 = .ok (.iload_n 1, 1) := by decide +kernel
theorem dX0_mend_22 : decode cX0_mend 22 = .ok (.ixor, 1) := by decide +kernel
theorem dX0_mend_23 : decode cX0_mend 23 = .ok (.iload_n 2, 1) := by decide +kernel
theorem dX0_mend_24 : decode cX0_mend 24 = .ok (.iconst (-1), 1) := by decide +kernel
theorem dX0_mend_25 : decode cX0_mend 25 = .ok (.ixor, 1) := by decide +kernel
theorem dX0_mend_26 : decode cX0_mend 26 = .ok (.iand, 1) := by decide +kernel
theorem dX0_mend_27 : decode cX0_mend 27 = .ok (.invokestatic 60, 3) := by decide +kernel
theorem dX0_mend_30 : decode cX0_mend 30 = .ok (.istore 5, 2) := by decide +kernel
theorem dX0_mend_32 : decode cX0_mend 32 = .ok (.iconst 2, 1) := by decide +kernel
theorem dX0_mend_33 : decode cX0_mend 33 = .ok (.iload 5, 2) := by decide +kernel
theorem dX0_mend_35 : decode cX0_mend 35 = .ok (.imul, 1) := by decide +kernel
theorem dX0_mend_36 : decode cX0_mend 36 = .ok (.iload_n 3, 1) := by decide +kernel
theorem dX0_mend_37 : decode cX0_mend 37 = .ok (.iadd, 1) := by decide +kernel
theorem dX0_mend_38 : decode cX0_mend 38 = .ok (.iconst 2, 1) := by decide +kernel
theorem dX0_mend_39 : decode cX0_mend 39 = .ok (.if_icmp .gt 26, 3) := by decide +kernel
theorem dX0_mend_42 : decode cX0_mend 42 = .ok (.iload 4, 2) := by decide +kernel
theorem dX0_mend_44 : decode cX0_mend 44 = .ok (.bipush 10, 2) := by decide +kernel
theorem dX0_mend_46 : decode cX0_mend 46 = .ok (.if_icmp .gt 16, 3) := by decide +kernel
theorem dX0_mend_49 : decode cX0_mend 49 = .ok (.aload_n 0, 1) := by decide +kernel
theorem dX0_mend_50 : decode cX0_mend 50 = .ok (.dup, 1) := by decide +kernel
theorem dX0_mend_51 : decode cX0_mend 51 = .ok (.getfield 18, 3) := by decide +kernel
theorem dX0_mend_54 : decode cX0_mend 54 = .ok (.iload 5, 2) := by decide +kernel
theorem dX0_mend_56 : decode cX0_mend 56 = .ok (.iload_n 3, 1) := by decide +kernel
theorem dX0_mend_57 : decode cX0_mend 57 = .ok (.iadd, 1) := by decide +kernel
theorem dX0_mend_58 : decode cX0_mend 58 = .ok (.iadd, 1) := by decide +kernel
theorem dX0_mend_59 : decode cX0_mend 59 = .ok (.putfield 18, 3) := by decide +kernel
theorem dX0_mend_62 : decode cX0_mend 62 = .ok (.iload 4, 2) := by decide +kernel
theorem dX0_mend_64 : decode cX0_mend 64 = .ok (.ireturn, 1) := by decide +kernel
theorem dX0_mend_65 : decode cX0_mend 65 = .ok (.iinc 4 1, 3) := by decide +kernel
theorem dX0_mend_68 : decode cX0_mend 68 = .ok (.goto (-60), 3) := by decide +kernel
theorem dX0_mend_71 : decode cX0_mend 71 = .ok (.iconst (-1), 1) := by decide +kernel
theorem dX0_mend_72 : decode cX0_mend 72 = .ok (.ireturn, 1) := by decide +kernel
theorem dX0_placeOf_0 : decode cX0_placeOf 0 = .ok (.aload_n 0, 1) := by decide +kernel
theorem dX0_placeOf_1 : decode cX0_placeOf 1 = .ok (.getfield 9, 3) := by decide +kernel
theorem dX0_placeOf_4 : decode cX0_placeOf 4 = .ok (.iconst 2, 1) := by decide +kernel
theorem dX0_placeOf_5 : decode cX0_placeOf 5 = .ok (.if_icmp .ne 11, 3) := by decide +kernel
theorem dX0_placeOf_8 : decode cX0_placeOf 8 = .ok (.iload_n 2, 1) := by decide +kernel
theorem dX0_placeOf_9 : decode cX0_placeOf 9 = .ok (.iload_n 3, 1) := by decide +kernel
theorem dX0_placeOf_10 : decode cX0_placeOf 10 = .ok (.imul, 1) := by decide +kernel
theorem dX0_placeOf_11 : decode cX0_placeOf 11 = .ok (.iload_n 1, 1) := by decide +kernel
theorem dX0_placeOf_12 : decode cX0_placeOf 12 = .ok (.iadd, 1) := by decide +kernel
theorem dX0_placeOf_13 : decode cX0_placeOf 13 = .ok (.goto 11, 3) := by decide +kernel
theorem dX0_placeOf_16 : decode cX0_placeOf 16 = .ok (.iload_n 1, 1) := by decide +kernel
theorem dX0_placeOf_17 : decode cX0_placeOf 17 = .ok (.aload_n 0, 1) := by decide +kernel
theorem dX0_placeOf_18 : decode cX0_placeOf 18 = .ok (.getfield 15, 3) := by decide +kernel
theorem dX0_placeOf_21 : decode cX0_placeOf 21 = .ok (.imul, 1) := by decide +kernel
theorem dX0_placeOf_22 : decode cX0_placeOf 22 = .ok (.iload_n 2, 1) := by decide +kernel
theorem dX0_placeOf_23 : decode cX0_placeOf 23 = .ok (.iadd, 1) := by decide +kernel
theorem dX0_placeOf_24 : decode cX0_placeOf 24 = .ok (.ireturn, 1) := by decide +kernel
theorem dX0_wordOf_0 : decode cX0_wordOf 0 = .ok (.aload_n 0, 1) := by decide +kernel
theorem dX0_wordOf_1 : decode cX0_wordOf 1 = .ok (.getfield 9, 3) := by decide +kernel
theorem dX0_wordOf_4 : decode cX0_wordOf 4 = .ok (.ifCond .ne 5, 3) := by decide +kernel
theorem dX0_wordOf_7 : decode cX0_wordOf 7 = .ok (.iload_n 1, 1) := by decide +kernel
theorem dX0_wordOf_8 : decode cX0_wordOf 8 = .ok (.ireturn, 1) := by decide +kernel
theorem dX0_wordOf_9 : decode cX0_wordOf 9 = .ok (.iload_n 1, 1) := by decide +kernel
theorem dX0_wordOf_10 : decode cX0_wordOf 10 = .ok (.iconst 3, 1) := by decide +kernel
theorem dX0_wordOf_11 : decode cX0_wordOf 11 = .ok (.ishr, 1) := by decide +kernel
theorem dX0_wordOf_12 : decode cX0_wordOf 12 = .ok (.iconst 1, 1) := by decide +kernel
theorem dX0_wordOf_13 : decode cX0_wordOf 13 = .ok (.iand, 1) := by decide +kernel
theorem dX0_wordOf_14 : decode cX0_wordOf 14 = .ok (.istore_n 2, 1) := by decide +kernel
theorem dX0_wordOf_15 : decode cX0_wordOf 15 = .ok (.iload_n 1, 1) := by decide +kernel
theorem dX0_wordOf_16 : decode cX0_wordOf 16 = .ok (.iconst 2, 1) := by decide +kernel
theorem dX0_wordOf_17 : decode cX0_wordOf 17 = .ok (.ishr, 1) := by decide +kernel
theorem dX0_wordOf_18 : decode cX0_wordOf 18 = .ok (.iconst 1, 1) := by decide +kernel
theorem dX0_wordOf_19 : decode cX0_wordOf 19 = .ok (.iand, 1) := by decide +kernel
theorem dX0_wordOf_20 : decode cX0_wordOf 20 = .ok (.istore_n 3, 1) := by decide +kernel
theorem dX0_wordOf_21 : decode cX0_wordOf 21 = .ok (.iload_n 1, 1) := by decide +kernel
theorem dX0_wordOf_22 : decode cX0_wordOf 22 = .ok (.iconst 1, 1) := by decide +kernel
theorem dX0_wordOf_23 : decode cX0_wordOf 23 = .ok (.ishr, 1) := by decide +kernel
theorem dX0_wordOf_24 : decode cX0_wordOf 24 = .ok (.iconst 1, 1) := by decide +kernel
theorem dX0_wordOf_25 : decode cX0_wordOf 25 = .ok (.iand, 1) := by decide +kernel
theorem dX0_wordOf_26 : decode cX0_wordOf 26 = .ok (.istore 4, 2) := by decide +kernel
theorem dX0_wordOf_28 : decode cX0_wordOf 28 = .ok (.iload_n 1, 1) := by decide +kernel
theorem dX0_wordOf_29 : decode cX0_wordOf 29 = .ok (.iconst 1, 1) := by decide +kernel
theorem dX0_wordOf_30 : decode cX0_wordOf 30 = .ok (.iand, 1) := by decide +kernel
theorem dX0_wordOf_31 : decode cX0_wordOf 31 = .ok (.istore 5, 2) := by decide +kernel
theorem dX0_wordOf_33 : decode cX0_wordOf 33 = .ok (.iload_n 1, 1) := by decide +kernel
theorem dX0_wordOf_34 : decode cX0_wordOf 34 = .ok (.iconst 3, 1) := by decide +kernel
theorem dX0_wordOf_35 : decode cX0_wordOf 35 = .ok (.ishl, 1) := by decide +kernel
theorem dX0_wordOf_36 : decode cX0_wordOf 36 = .ok (.iload_n 2, 1) := by decide +kernel
theorem dX0_wordOf_37 : decode cX0_wordOf 37 = .ok (.iload_n 3, 1) := by decide +kernel
theorem dX0_wordOf_38 : decode cX0_wordOf 38 = .ok (.ixor, 1) := by decide +kernel
theorem dX0_wordOf_39 : decode cX0_wordOf 39 = .ok (.iload 5, 2) := by decide +kernel
theorem dX0_wordOf_41 : decode cX0_wordOf 41 = .ok (.ixor, 1) := by decide +kernel
theorem dX0_wordOf_42 : decode cX0_wordOf 42 = .ok (.iconst 2, 1) := by decide +kernel
theorem dX0_wordOf_43 : decode cX0_wordOf 43 = .ok (.ishl, 1) := by decide +kernel
theorem dX0_wordOf_44 : decode cX0_wordOf 44 = .ok (.ior, 1) := by decide +kernel
theorem dX0_wordOf_45 : decode cX0_wordOf 45 = .ok (.iload_n 2, 1) := by decide +kernel
theorem dX0_wordOf_46 : decode cX0_wordOf 46 = .ok (.iload 4, 2) := by decide +kernel
theorem dX0_wordOf_48 : decode cX0_wordOf 48 = .ok (.ixor, 1) := by decide +kernel
theorem dX0_wordOf_49 : decode cX0_wordOf 49 = .ok (.iload 5, 2) := by decide +kernel
theorem dX0_wordOf_51 : decode cX0_wordOf 51 = .ok (.ixor, 1) := by decide +kernel
theorem dX0_wordOf_52 : decode cX0_wordOf 52 = .ok (.iconst 1, 1) := by decide +kernel
theorem dX0_wordOf_53 : decode cX0_wordOf 53 = .ok (.ishl, 1) := by decide +kernel
theorem dX0_wordOf_54 : decode cX0_wordOf 54 = .ok (.ior, 1) := by decide +kernel
theorem dX0_wordOf_55 : decode cX0_wordOf 55 = .ok (.iload_n 3, 1) := by decide +kernel
theorem dX0_wordOf_56 : decode cX0_wordOf 56 = .ok (.iload 4, 2) := by decide +kernel
theorem dX0_wordOf_58 : decode cX0_wordOf 58 = .ok (.ixor, 1) := by decide +kernel
theorem dX0_wordOf_59 : decode cX0_wordOf 59 = .ok (.iload 5, 2) := by decide +kernel
theorem dX0_wordOf_61 : decode cX0_wordOf 61 = .ok (.ixor, 1) := by decide +kernel
theorem dX0_wordOf_62 : decode cX0_wordOf 62 = .ok (.ior, 1) := by decide +kernel
theorem dX0_wordOf_63 : decode cX0_wordOf 63 = .ok (.ireturn, 1) := by decide +kernel
theorem dX1_init_0 : decode cX1_init 0 = .ok (.aload_n 0, 1) := by decide +kernel
theorem dX1_init_1 : decode cX1_init 1 = .ok (.invokespecial 3, 3) := by decide +kernel
theorem dX1_init_4 : decode cX1_init 4 = .ok (.aload_n 0, 1) := by decide +kernel
theorem dX1_init_5 : decode cX1_init 5 = .ok (.bipush 6, 2) := by decide +kernel
theorem dX1_init_7 : decode cX1_init 7 = .ok (.newarray .int, 2) := by decide +kernel
theorem dX1_init_9 : decode cX1_init 9 = .ok (.putfield 9, 3) := by decide +kernel
theorem dX1_init_12 : decode cX1_init 12 = .ok (.aload_n 0, 1) := by decide +kernel
theorem dX1_init_13 : decode cX1_init 13 = .ok (.bipush 6, 2) := by decide +kernel
theorem dX1_init_15 : decode cX1_init 15 = .ok (.newarray .int, 2) := by decide +kernel
theorem dX1_init_17 : decode cX1_init 17 = .ok (.putfield 15, 3) := by decide +kernel
theorem dX1_init_20 : decode cX1_init 20 = .ok (.aload_n 0, 1) := by decide +kernel
theorem dX1_init_21 : decode cX1_init 21 = .ok (.bipush 6, 2) := by decide +kernel
theorem dX1_init_23 : decode cX1_init 23 = .ok (.newarray .long, 2) := by decide +kernel
theorem dX1_init_25 : decode cX1_init 25 = .ok (.putfield 18, 3) := by decide +kernel
theorem dX1_init_28 : decode cX1_init 28 = .ok (.aload_n 0, 1) := by decide +kernel
theorem dX1_init_29 : decode cX1_init 29 = .ok (.iconst 0, 1) := by decide +kernel
theorem dX1_init_30 : decode cX1_init 30 = .ok (.putfield 22, 3) := by decide +kernel
theorem dX1_init_33 : decode cX1_init 33 = .ok (.return_, 1) := by decide +kernel
theorem dX1_size_0 : decode cX1_size 0 = .ok (.aload_n 0, 1) := by decide +kernel
theorem dX1_size_1 : decode cX1_size 1 = .ok (.getfield 22, 3) := by decide +kernel
theorem dX1_size_4 : decode cX1_size 4 = .ok (.ireturn, 1) := by decide +kernel
theorem dX1_empty_0 : decode cX1_empty 0 = .ok (.aload_n 0, 1) := by decide +kernel
theorem dX1_empty_1 : decode cX1_empty 1 = .ok (.iconst 0, 1) := by decide +kernel
theorem dX1_empty_2 : decode cX1_empty 2 = .ok (.putfield 22, 3) := by decide +kernel
theorem dX1_empty_5 : decode cX1_empty 5 = .ok (.return_, 1) := by decide +kernel
theorem dX1_add_0 : decode cX1_add 0 = .ok (.aload_n 0, 1) := by decide +kernel
theorem dX1_add_1 : decode cX1_add 1 = .ok (.getfield 22, 3) := by decide +kernel
theorem dX1_add_4 : decode cX1_add 4 = .ok (.bipush 6, 2) := by decide +kernel
theorem dX1_add_6 : decode cX1_add 6 = .ok (.if_icmp .ge 43, 3) := by decide +kernel
theorem dX1_add_9 : decode cX1_add 9 = .ok (.aload_n 0, 1) := by decide +kernel
theorem dX1_add_10 : decode cX1_add 10 = .ok (.getfield 9, 3) := by decide +kernel
theorem dX1_add_13 : decode cX1_add 13 = .ok (.aload_n 0, 1) := by decide +kernel
theorem dX1_add_14 : decode cX1_add 14 = .ok (.getfield 22, 3) := by decide +kernel
theorem dX1_add_17 : decode cX1_add 17 = .ok (.iload_n 1, 1) := by decide +kernel
theorem dX1_add_18 : decode cX1_add 18 = .ok (.iastore, 1) := by decide +kernel
theorem dX1_add_19 : decode cX1_add 19 = .ok (.aload_n 0, 1) := by decide +kernel
theorem dX1_add_20 : decode cX1_add 20 = .ok (.getfield 15, 3) := by decide +kernel
theorem dX1_add_23 : decode cX1_add 23 = .ok (.aload_n 0, 1) := by decide +kernel
theorem dX1_add_24 : decode cX1_add 24 = .ok (.getfield 22, 3) := by decide +kernel
theorem dX1_add_27 : decode cX1_add 27 = .ok (.iload_n 2, 1) := by decide +kernel
theorem dX1_add_28 : decode cX1_add 28 = .ok (.iastore, 1) := by decide +kernel
theorem dX1_add_29 : decode cX1_add 29 = .ok (.aload_n 0, 1) := by decide +kernel
theorem dX1_add_30 : decode cX1_add 30 = .ok (.getfield 18, 3) := by decide +kernel
theorem dX1_add_33 : decode cX1_add 33 = .ok (.aload_n 0, 1) := by decide +kernel
theorem dX1_add_34 : decode cX1_add 34 = .ok (.getfield 22, 3) := by decide +kernel
theorem dX1_add_37 : decode cX1_add 37 = .ok (.lload_n 3, 1) := by decide +kernel
theorem dX1_add_38 : decode cX1_add 38 = .ok (.lastore, 1) := by decide +kernel
theorem dX1_add_39 : decode cX1_add 39 = .ok (.aload_n 0, 1) := by decide +kernel
theorem dX1_add_40 : decode cX1_add 40 = .ok (.dup, 1) := by decide +kernel
theorem dX1_add_41 : decode cX1_add 41 = .ok (.getfield 22, 3) := by decide +kernel
theorem dX1_add_44 : decode cX1_add 44 = .ok (.iconst 1, 1) := by decide +kernel
theorem dX1_add_45 : decode cX1_add 45 = .ok (.iadd, 1) := by decide +kernel
theorem dX1_add_46 : decode cX1_add 46 = .ok (.putfield 22, 3) := by decide +kernel
theorem dX1_add_49 : decode cX1_add 49 = .ok (.return_, 1) := by decide +kernel
theorem dX1_has_0 : decode cX1_has 0 = .ok (.iconst 0, 1) := by decide +kernel
theorem dX1_has_1 : decode cX1_has 1 = .ok (.istore_n 2, 1) := by decide +kernel
theorem dX1_has_2 : decode cX1_has 2 = .ok (.iload_n 2, 1) := by decide +kernel
theorem dX1_has_3 : decode cX1_has 3 = .ok (.aload_n 0, 1) := by decide +kernel
theorem dX1_has_4 : decode cX1_has 4 = .ok (.getfield 22, 3) := by decide +kernel
theorem dX1_has_7 : decode cX1_has 7 = .ok (.if_icmp .ge 21, 3) := by decide +kernel
theorem dX1_has_10 : decode cX1_has 10 = .ok (.aload_n 0, 1) := by decide +kernel
theorem dX1_has_11 : decode cX1_has 11 = .ok (.getfield 9, 3) := by decide +kernel
theorem dX1_has_14 : decode cX1_has 14 = .ok (.iload_n 2, 1) := by decide +kernel
theorem dX1_has_15 : decode cX1_has 15 = .ok (.iaload, 1) := by decide +kernel
theorem dX1_has_16 : decode cX1_has 16 = .ok (.iload_n 1, 1) := by decide +kernel
theorem dX1_has_17 : decode cX1_has 17 = .ok (.if_icmp .ne 5, 3) := by decide +kernel
theorem dX1_has_20 : decode cX1_has 20 = .ok (.iconst 1, 1) := by decide +kernel
theorem dX1_has_21 : decode cX1_has 21 = .ok (.ireturn, 1) := by decide +kernel
theorem dX1_has_22 : decode cX1_has 22 = .ok (.iinc 2 1, 3) := by decide +kernel
theorem dX1_has_25 : decode cX1_has 25 = .ok (.goto (-23), 3) := by decide +kernel
theorem dX1_has_28 : decode cX1_has 28 = .ok (.iconst 0, 1) := by decide +kernel
theorem dX1_has_29 : decode cX1_has 29 = .ok (.ireturn, 1) := by decide +kernel
theorem dX1_prefixAt_0 : decode cX1_prefixAt 0 = .ok (.iload_n 1, 1) := by decide +kernel
theorem dX1_prefixAt_1 : decode cX1_prefixAt 1 = .ok (.ifCond .lt 20, 3) := by decide +kernel
theorem dX1_prefixAt_4 : decode cX1_prefixAt 4 = .ok (.iload_n 1, 1) := by decide +kernel
theorem dX1_prefixAt_5 : decode cX1_prefixAt 5 = .ok (.aload_n 0, 1) := by decide +kernel
theorem dX1_prefixAt_6 : decode cX1_prefixAt 6 = .ok (.getfield 22, 3) := by decide +kernel
theorem dX1_prefixAt_9 : decode cX1_prefixAt 9 = .ok (.if_icmp .ge 12, 3) := by decide +kernel
theorem dX1_prefixAt_12 : decode cX1_prefixAt 12 = .ok (.aload_n 0, 1) := by decide +kernel
theorem dX1_prefixAt_13 : decode cX1_prefixAt 13 = .ok (.getfield 9, 3) := by decide +kernel
theorem dX1_prefixAt_16 : decode cX1_prefixAt 16 = .ok (.iload_n 1, 1) := by decide +kernel
theorem dX1_prefixAt_17 : decode cX1_prefixAt 17 = .ok (.iaload, 1) := by decide +kernel
theorem dX1_prefixAt_18 : decode cX1_prefixAt 18 = .ok (.goto 4, 3) := by decide +kernel
theorem dX1_prefixAt_21 : decode cX1_prefixAt 21 = .ok (.iconst (-1), 1) := by decide +kernel
theorem dX1_prefixAt_22 : decode cX1_prefixAt 22 = .ok (.ireturn, 1) := by decide +kernel
theorem dX1_digitsAt_0 : decode cX1_digitsAt 0 = .ok (.iload_n 1, 1) := by decide +kernel
theorem dX1_digitsAt_1 : decode cX1_digitsAt 1 = .ok (.ifCond .lt 20, 3) := by decide +kernel
theorem dX1_digitsAt_4 : decode cX1_digitsAt 4 = .ok (.iload_n 1, 1) := by decide +kernel
theorem dX1_digitsAt_5 : decode cX1_digitsAt 5 = .ok (.aload_n 0, 1) := by decide +kernel
theorem dX1_digitsAt_6 : decode cX1_digitsAt 6 = .ok (.getfield 22, 3) := by decide +kernel
theorem dX1_digitsAt_9 : decode cX1_digitsAt 9 = .ok (.if_icmp .ge 12, 3) := by decide +kernel
theorem dX1_digitsAt_12 : decode cX1_digitsAt 12 = .ok (.aload_n 0, 1) := by decide +kernel
theorem dX1_digitsAt_13 : decode cX1_digitsAt 13 = .ok (.getfield 15, 3) := by decide +kernel
theorem dX1_digitsAt_16 : decode cX1_digitsAt 16 = .ok (.iload_n 1, 1) := by decide +kernel
theorem dX1_digitsAt_17 : decode cX1_digitsAt 17 = .ok (.iaload, 1) := by decide +kernel
theorem dX1_digitsAt_18 : decode cX1_digitsAt 18 = .ok (.goto 4, 3) := by decide +kernel
theorem dX1_digitsAt_21 : decode cX1_digitsAt 21 = .ok (.iconst 0, 1) := by decide +kernel
theorem dX1_digitsAt_22 : decode cX1_digitsAt 22 = .ok (.ireturn, 1) := by decide +kernel
theorem dX1_numberAt_0 : decode cX1_numberAt 0 = .ok (.iload_n 1, 1) := by decide +kernel
theorem dX1_numberAt_1 : decode cX1_numberAt 1 = .ok (.ifCond .lt 20, 3) := by decide +kernel
theorem dX1_numberAt_4 : decode cX1_numberAt 4 = .ok (.iload_n 1, 1) := by decide +kernel
theorem dX1_numberAt_5 : decode cX1_numberAt 5 = .ok (.aload_n 0, 1) := by decide +kernel
theorem dX1_numberAt_6 : decode cX1_numberAt 6 = .ok (.getfield 22, 3) := by decide +kernel
theorem dX1_numberAt_9 : decode cX1_numberAt 9 = .ok (.if_icmp .ge 12, 3) := by decide +kernel
theorem dX1_numberAt_12 : decode cX1_numberAt 12 = .ok (.aload_n 0, 1) := by decide +kernel
theorem dX1_numberAt_13 : decode cX1_numberAt 13 = .ok (.getfield 18, 3) := by decide +kernel
theorem dX1_numberAt_16 : decode cX1_numberAt 16 = .ok (.iload_n 1, 1) := by decide +kernel
theorem dX1_numberAt_17 : decode cX1_numberAt 17 = .ok (.laload, 1) := by decide +kernel
theorem dX1_numberAt_18 : decode cX1_numberAt 18 = .ok (.goto 4, 3) := by decide +kernel
theorem dX1_numberAt_21 : decode cX1_numberAt 21 = .ok (.lconst 0, 1) := by decide +kernel
theorem dX1_numberAt_22 : decode cX1_numberAt 22 = .ok (.lreturn, 1) := by decide +kernel
theorem dX2_init_0 : decode cX2_init 0 = .ok (.aload_n 0, 1) := by decide +kernel
theorem dX2_init_1 : decode cX2_init 1 = .ok (.invokespecial 3, 3) := by decide +kernel
theorem dX2_init_4 : decode cX2_init 4 = .ok (.aload_n 0, 1) := by decide +kernel
theorem dX2_init_5 : decode cX2_init 5 = .ok (.bipush 100, 2) := by decide +kernel
theorem dX2_init_7 : decode cX2_init 7 = .ok (.newarray .int, 2) := by decide +kernel
theorem dX2_init_9 : decode cX2_init 9 = .ok (.putfield 9, 3) := by decide +kernel
theorem dX2_init_12 : decode cX2_init 12 = .ok (.aload_n 0, 1) := by decide +kernel
theorem dX2_init_13 : decode cX2_init 13 = .ok (.bipush 100, 2) := by decide +kernel
theorem dX2_init_15 : decode cX2_init 15 = .ok (.newarray .boolean, 2) := by decide +kernel
theorem dX2_init_17 : decode cX2_init 17 = .ok (.putfield 15, 3) := by decide +kernel
theorem dX2_init_20 : decode cX2_init 20 = .ok (.aload_n 0, 1) := by decide +kernel
theorem dX2_init_21 : decode cX2_init 21 = .ok (.bipush 100, 2) := by decide +kernel
theorem dX2_init_23 : decode cX2_init 23 = .ok (.newarray .int, 2) := by decide +kernel
theorem dX2_init_25 : decode cX2_init 25 = .ok (.putfield 19, 3) := by decide +kernel
theorem dX2_init_28 : decode cX2_init 28 = .ok (.aload_n 0, 1) := by decide +kernel
theorem dX2_init_29 : decode cX2_init 29 = .ok (.bipush 100, 2) := by decide +kernel
theorem dX2_init_31 : decode cX2_init 31 = .ok (.newarray .int, 2) := by decide +kernel
theorem dX2_init_33 : decode cX2_init 33 = .ok (.putfield 22, 3) := by decide +kernel
theorem dX2_init_36 : decode cX2_init 36 = .ok (.aload_n 0, 1) := by decide +kernel
theorem dX2_init_37 : decode cX2_init 37 = .ok (.iconst 0, 1) := by decide +kernel
theorem dX2_init_38 : decode cX2_init 38 = .ok (.putfield 25, 3) := by decide +kernel
theorem dX2_init_41 : decode cX2_init 41 = .ok (.return_, 1) := by decide +kernel
theorem dX2_size_0 : decode cX2_size 0 = .ok (.aload_n 0, 1) := by decide +kernel
theorem dX2_size_1 : decode cX2_size 1 = .ok (.getfield 25, 3) := by decide +kernel
theorem dX2_size_4 : decode cX2_size 4 = .ok (.ireturn, 1) := by decide +kernel
theorem dX2_has_0 : decode cX2_has 0 = .ok (.iload_n 1, 1) := by decide +kernel
theorem dX2_has_1 : decode cX2_has 1 = .ok (.bipush 10, 2) := by decide +kernel
theorem dX2_has_3 : decode cX2_has 3 = .ok (.if_icmp .lt 22, 3) := by decide +kernel
theorem dX2_has_6 : decode cX2_has 6 = .ok (.iload_n 1, 1) := by decide +kernel
theorem dX2_has_7 : decode cX2_has 7 = .ok (.bipush 99, 2) := by decide +kernel
theorem dX2_has_9 : decode cX2_has 9 = .ok (.if_icmp .gt 16, 3) := by decide +kernel
theorem dX2_has_12 : decode cX2_has 12 = .ok (.aload_n 0, 1) := by decide +kernel
theorem dX2_has_13 : decode cX2_has 13 = .ok (.getfield 9, 3) := by decide +kernel
theorem dX2_has_16 : decode cX2_has 16 = .ok (.iload_n 1, 1) := by decide +kernel
theorem dX2_has_17 : decode cX2_has 17 = .ok (.iaload, 1) := by decide +kernel
theorem dX2_has_18 : decode cX2_has 18 = .ok (.ifCond .le 7, 3) := by decide +kernel
theorem dX2_has_21 : decode cX2_has 21 = .ok (.iconst 1, 1) := by decide +kernel
theorem dX2_has_22 : decode cX2_has 22 = .ok (.goto 4, 3) := by decide +kernel
theorem dX2_has_25 : decode cX2_has 25 = .ok (.iconst 0, 1) := by decide +kernel
theorem dX2_has_26 : decode cX2_has 26 = .ok (.ireturn, 1) := by decide +kernel
theorem dX2_put_0 : decode cX2_put 0 = .ok (.iload_n 1, 1) := by decide +kernel
theorem dX2_put_1 : decode cX2_put 1 = .ok (.invokestatic 29, 3) := by decide +kernel
theorem dX2_put_4 : decode cX2_put 4 = .ok (.ifCond .ne 4, 3) := by decide +kernel
theorem dX2_put_7 : decode cX2_put 7 = .ok (.return_, 1) := by decide +kernel
theorem dX2_put_8 : decode cX2_put 8 = .ok (.aload_n 0, 1) := by decide +kernel
theorem dX2_put_9 : decode cX2_put 9 = .ok (.iload_n 1, 1) := by decide +kernel
theorem dX2_put_10 : decode cX2_put 10 = .ok (.invokevirtual 33, 3) := by decide +kernel
theorem dX2_put_13 : decode cX2_put 13 = .ok (.ifCond .ne 13, 3) := by decide +kernel
theorem dX2_put_16 : decode cX2_put 16 = .ok (.aload_n 0, 1) := by decide +kernel
theorem dX2_put_17 : decode cX2_put 17 = .ok (.dup, 1) := by decide +kernel
theorem dX2_put_18 : decode cX2_put 18 = .ok (.getfield 25, 3) := by decide +kernel
theorem dX2_put_21 : decode cX2_put 21 = .ok (.iconst 1, 1) := by decide +kernel
theorem dX2_put_22 : decode cX2_put 22 = .ok (.iadd, 1) := by decide +kernel
theorem dX2_put_23 : decode cX2_put 23 = .ok (.putfield 25, 3) := by decide +kernel
theorem dX2_put_26 : decode cX2_put 26 = .ok (.aload_n 0, 1) := by decide +kernel
theorem dX2_put_27 : decode cX2_put 27 = .ok (.getfield 9, 3) := by decide +kernel
theorem dX2_put_30 : decode cX2_put 30 = .ok (.iload_n 1, 1) := by decide +kernel
theorem dX2_put_31 : decode cX2_put 31 = .ok (.iload_n 2, 1) := by decide +kernel
theorem dX2_put_32 : decode cX2_put 32 = .ok (.iastore, 1) := by decide +kernel
theorem dX2_put_33 : decode cX2_put 33 = .ok (.aload_n 0, 1) := by decide +kernel
theorem dX2_put_34 : decode cX2_put 34 = .ok (.getfield 15, 3) := by decide +kernel
theorem dX2_put_37 : decode cX2_put 37 = .ok (.iload_n 1, 1) := by decide +kernel
theorem dX2_put_38 : decode cX2_put 38 = .ok (.iload_n 3, 1) := by decide +kernel
theorem dX2_put_39 : decode cX2_put 39 = .ok (.bastore, 1) := by decide +kernel
theorem dX2_put_40 : decode cX2_put 40 = .ok (.aload_n 0, 1) := by decide +kernel
theorem dX2_put_41 : decode cX2_put 41 = .ok (.getfield 19, 3) := by decide +kernel
theorem dX2_put_44 : decode cX2_put 44 = .ok (.iload_n 1, 1) := by decide +kernel
theorem dX2_put_45 : decode cX2_put 45 = .ok (.iload 4, 2) := by decide +kernel
theorem dX2_put_47 : decode cX2_put 47 = .ok (.iastore, 1) := by decide +kernel
theorem dX2_put_48 : decode cX2_put 48 = .ok (.aload_n 0, 1) := by decide +kernel
theorem dX2_put_49 : decode cX2_put 49 = .ok (.getfield 22, 3) := by decide +kernel
theorem dX2_put_52 : decode cX2_put 52 = .ok (.iload_n 1, 1) := by decide +kernel
theorem dX2_put_53 : decode cX2_put 53 = .ok (.iconst 0, 1) := by decide +kernel
theorem dX2_put_54 : decode cX2_put 54 = .ok (.iastore, 1) := by decide +kernel
theorem dX2_put_55 : decode cX2_put 55 = .ok (.return_, 1) := by decide +kernel
theorem dX2_putNeed_0 : decode cX2_putNeed 0 = .ok (.aload_n 0, 1) := by decide +kernel
theorem dX2_putNeed_1 : decode cX2_putNeed 1 = .ok (.iload_n 1, 1) := by decide +kernel
theorem dX2_putNeed_2 : decode cX2_putNeed 2 = .ok (.invokevirtual 33, 3) := by decide +kernel
theorem dX2_putNeed_5 : decode cX2_putNeed 5 = .ok (.ifCond .eq 10, 3) := by decide +kernel
theorem dX2_putNeed_8 : decode cX2_putNeed 8 = .ok (.aload_n 0, 1) := by decide +kernel
theorem dX2_putNeed_9 : decode cX2_putNeed 9 = .ok (.getfield 22, 3) := by decide +kernel
theorem dX2_putNeed_12 : decode cX2_putNeed 12 = .ok (.iload_n 1, 1) := by decide +kernel
theorem dX2_putNeed_13 : decode cX2_putNeed 13 = .ok (.iload_n 2, 1) := by decide +kernel
theorem dX2_putNeed_14 : decode cX2_putNeed 14 = .ok (.iastore, 1) := by decide +kernel
theorem dX2_putNeed_15 : decode cX2_putNeed 15 = .ok (.return_, 1) := by decide +kernel
theorem dX2_lengthOf_0 : decode cX2_lengthOf 0 = .ok (.aload_n 0, 1) := by decide +kernel
theorem dX2_lengthOf_1 : decode cX2_lengthOf 1 = .ok (.iload_n 1, 1) := by decide +kernel
theorem dX2_lengthOf_2 : decode cX2_lengthOf 2 = .ok (.invokevirtual 33, 3) := by decide +kernel
theorem dX2_lengthOf_5 : decode cX2_lengthOf 5 = .ok (.ifCond .eq 12, 3) := by decide +kernel
theorem dX2_lengthOf_8 : decode cX2_lengthOf 8 = .ok (.aload_n 0, 1) := by decide +kernel
theorem dX2_lengthOf_9 : decode cX2_lengthOf 9 = .ok (.getfield 9, 3) := by decide +kernel
theorem dX2_lengthOf_12 : decode cX2_lengthOf 12 = .ok (.iload_n 1, 1) := by decide +kernel
theorem dX2_lengthOf_13 : decode cX2_lengthOf 13 = .ok (.iaload, 1) := by decide +kernel
theorem dX2_lengthOf_14 : decode cX2_lengthOf 14 = .ok (.goto 4, 3) := by decide +kernel
theorem dX2_lengthOf_17 : decode cX2_lengthOf 17 = .ok (.iconst 0, 1) := by decide +kernel
theorem dX2_lengthOf_18 : decode cX2_lengthOf 18 = .ok (.ireturn, 1) := by decide +kernel
theorem dX2_isFixed_0 : decode cX2_isFixed 0 = .ok (.aload_n 0, 1) := by decide +kernel
theorem dX2_isFixed_1 : decode cX2_isFixed 1 = .ok (.iload_n 1, 1) := by decide +kernel
theorem dX2_isFixed_2 : decode cX2_isFixed 2 = .ok (.invokevirtual 33, 3) := by decide +kernel
theorem dX2_isFixed_5 : decode cX2_isFixed 5 = .ok (.ifCond .eq 16, 3) := by decide +kernel
theorem dX2_isFixed_8 : decode cX2_isFixed 8 = .ok (.aload_n 0, 1) := by decide +kernel
theorem dX2_isFixed_9 : decode cX2_isFixed 9 = .ok (.getfield 15, 3) := by decide +kernel
theorem dX2_isFixed_12 : decode cX2_isFixed 12 = .ok (.iload_n 1, 1) := by decide +kernel
theorem dX2_isFixed_13 : decode cX2_isFixed 13 = .ok (.baload, 1) := by decide +kernel
theorem dX2_isFixed_14 : decode cX2_isFixed 14 = .ok (.ifCond .eq 7, 3) := by decide +kernel
theorem dX2_isFixed_17 : decode cX2_isFixed 17 = .ok (.iconst 1, 1) := by decide +kernel
theorem dX2_isFixed_18 : decode cX2_isFixed 18 = .ok (.goto 4, 3) := by decide +kernel
theorem dX2_isFixed_21 : decode cX2_isFixed 21 = .ok (.iconst 0, 1) := by decide +kernel
theorem dX2_isFixed_22 : decode cX2_isFixed 22 = .ok (.ireturn, 1) := by decide +kernel
theorem dX2_stationOf_0 : decode cX2_stationOf 0 = .ok (.aload_n 0, 1) := by decide +kernel
theorem dX2_stationOf_1 : decode cX2_stationOf 1 = .ok (.iload_n 1, 1) := by decide +kernel
theorem dX2_stationOf_2 : decode cX2_stationOf 2 = .ok (.invokevirtual 33, 3) := by decide +kernel
theorem dX2_stationOf_5 : decode cX2_stationOf 5 = .ok (.ifCond .eq 12, 3) := by decide +kernel
theorem dX2_stationOf_8 : decode cX2_stationOf 8 = .ok (.aload_n 0, 1) := by decide +kernel
theorem dX2_stationOf_9 : decode cX2_stationOf 9 = .ok (.getfield 19, 3) := by decide +kernel
theorem dX2_stationOf_12 : decode cX2_stationOf 12 = .ok (.iload_n 1, 1) := by decide +kernel
theorem dX2_stationOf_13 : decode cX2_stationOf 13 = .ok (.iaload, 1) := by decide +kernel
theorem dX2_stationOf_14 : decode cX2_stationOf 14 = .ok (.goto 4, 3) := by decide +kernel
theorem dX2_stationOf_17 : decode cX2_stationOf 17 = .ok (.iconst (-1), 1) := by decide +kernel
theorem dX2_stationOf_18 : decode cX2_stationOf 18 = .ok (.ireturn, 1) := by decide +kernel
theorem dX2_needOf_0 : decode cX2_needOf 0 = .ok (.aload_n 0, 1) := by decide +kernel
theorem dX2_needOf_1 : decode cX2_needOf 1 = .ok (.iload_n 1, 1) := by decide +kernel
theorem dX2_needOf_2 : decode cX2_needOf 2 = .ok (.invokevirtual 33, 3) := by decide +kernel
theorem dX2_needOf_5 : decode cX2_needOf 5 = .ok (.ifCond .eq 12, 3) := by decide +kernel
theorem dX2_needOf_8 : decode cX2_needOf 8 = .ok (.aload_n 0, 1) := by decide +kernel
theorem dX2_needOf_9 : decode cX2_needOf 9 = .ok (.getfield 22, 3) := by decide +kernel
theorem dX2_needOf_12 : decode cX2_needOf 12 = .ok (.iload_n 1, 1) := by decide +kernel
theorem dX2_needOf_13 : decode cX2_needOf 13 = .ok (.iaload, 1) := by decide +kernel
theorem dX2_needOf_14 : decode cX2_needOf 14 = .ok (.goto 4, 3) := by decide +kernel
theorem dX2_needOf_17 : decode cX2_needOf 17 = .ok (.iconst 0, 1) := by decide +kernel
theorem dX2_needOf_18 : decode cX2_needOf 18 = .ok (.ireturn, 1) := by decide +kernel
theorem dX2_lets_0 : decode cX2_lets 0 = .ok (.aload_n 0, 1) := by decide +kernel
theorem dX2_lets_1 : decode cX2_lets 1 = .ok (.iload_n 1, 1) := by decide +kernel
theorem dX2_lets_2 : decode cX2_lets 2 = .ok (.invokevirtual 36, 3) := by decide +kernel
theorem dX2_lets_5 : decode cX2_lets 5 = .ok (.istore_n 3, 1) := by decide +kernel
theorem dX2_lets_6 : decode cX2_lets 6 = .ok (.aload_n 0, 1) := by decide +kernel
theorem dX2_lets_7 : decode cX2_lets 7 = .ok (.iload_n 1, 1) := by decide +kernel
theorem dX2_lets_8 : decode cX2_lets 8 = .ok (.invokevirtual 40, 3) := by decide +kernel
theorem dX2_lets_11 : decode cX2_lets 11 = .ok (.ifCond .eq 16, 3) := by decide +kernel
theorem dX2_lets_14 : decode cX2_lets 14 = .ok (.iload_n 2, 1) := by decide +kernel
theorem dX2_lets_15 : decode cX2_lets 15 = .ok (.iload_n 3, 1) := by decide +kernel
theorem dX2_lets_16 : decode cX2_lets 16 = .ok (.if_icmp .ne 7, 3) := by decide +kernel
theorem dX2_lets_19 : decode cX2_lets 19 = .ok (.iconst 1, 1) := by decide +kernel
theorem dX2_lets_20 : decode cX2_lets 20 = .ok (.goto 17, 3) := by decide +kernel
theorem dX2_lets_23 : decode cX2_lets 23 = .ok (.iconst 0, 1) := by decide +kernel
theorem dX2_lets_24 : decode cX2_lets 24 = .ok (.goto 13, 3) := by decide +kernel
theorem dX2_lets_27 : decode cX2_lets 27 = .ok (.iload_n 2, 1) := by decide +kernel
theorem dX2_lets_28 : decode cX2_lets 28 = .ok (.iload_n 3, 1) := by decide +kernel
theorem dX2_lets_29 : decode cX2_lets 29 = .ok (.if_icmp .gt 7, 3) := by decide +kernel
theorem dX2_lets_32 : decode cX2_lets 32 = .ok (.iconst 1, 1) := by decide +kernel
theorem dX2_lets_33 : decode cX2_lets 33 = .ok (.goto 4, 3) := by decide +kernel
theorem dX2_lets_36 : decode cX2_lets 36 = .ok (.iconst 0, 1) := by decide +kernel
theorem dX2_lets_37 : decode cX2_lets 37 = .ok (.ireturn, 1) := by decide +kernel
theorem dX2_nearTo_0 : decode cX2_nearTo 0 = .ok (.iconst 0, 1) := by decide +kernel
theorem dX2_nearTo_1 : decode cX2_nearTo 1 = .ok (.istore_n 3, 1) := by decide +kernel
theorem dX2_nearTo_2 : decode cX2_nearTo 2 = .ok (.bipush 10, 2) := by decide +kernel
theorem dX2_nearTo_4 : decode cX2_nearTo 4 = .ok (.istore 4, 2) := by decide +kernel
theorem dX2_nearTo_6 : decode cX2_nearTo 6 = .ok (.iload 4, 2) := by decide +kernel
theorem dX2_nearTo_8 : decode cX2_nearTo 8 = .ok (.bipush 99, 2) := by decide +kernel
theorem dX2_nearTo_10 : decode cX2_nearTo 10 = .ok (.if_icmp .gt 38, 3) := by decide +kernel
theorem dX2_nearTo_13 : decode cX2_nearTo 13 = .ok (.aload_n 0, 1) := by decide +kernel
theorem dX2_nearTo_14 : decode cX2_nearTo 14 = .ok (.iload 4, 2) := by decide +kernel
theorem dX2_nearTo_16 : decode cX2_nearTo 16 = .ok (.invokevirtual 33, 3) := by decide +kernel
theorem dX2_nearTo_19 : decode cX2_nearTo 19 = .ok (.ifCond .eq 23, 3) := by decide +kernel
theorem dX2_nearTo_22 : decode cX2_nearTo 22 = .ok (.iload 4, 2) := by decide +kernel
theorem dX2_nearTo_24 : decode cX2_nearTo 24 = .ok (.iload_n 1, 1) := by decide +kernel
theorem dX2_nearTo_25 : decode cX2_nearTo 25 = .ok (.invokestatic 43, 3) := by decide +kernel
theorem dX2_nearTo_28 : decode cX2_nearTo 28 = .ok (.ifCond .eq 14, 3) := by decide +kernel
theorem dX2_nearTo_31 : decode cX2_nearTo 31 = .ok (.iload_n 3, 1) := by decide +kernel
theorem dX2_nearTo_32 : decode cX2_nearTo 32 = .ok (.iload_n 2, 1) := by decide +kernel
theorem dX2_nearTo_33 : decode cX2_nearTo 33 = .ok (.if_icmp .ne 6, 3) := by decide +kernel
theorem dX2_nearTo_36 : decode cX2_nearTo 36 = .ok (.iload 4, 2) := by decide +kernel
theorem dX2_nearTo_38 : decode cX2_nearTo 38 = .ok (.ireturn, 1) := by decide +kernel
theorem dX2_nearTo_39 : decode cX2_nearTo 39 = .ok (.iinc 3 1, 3) := by decide +kernel
theorem dX2_nearTo_42 : decode cX2_nearTo 42 = .ok (.iinc 4 1, 3) := by decide +kernel
theorem dX2_nearTo_45 : decode cX2_nearTo 45 = .ok (.goto (-39), 3) := by decide +kernel
theorem dX2_nearTo_48 : decode cX2_nearTo 48 = .ok (.iconst (-1), 1) := by decide +kernel
theorem dX2_nearTo_49 : decode cX2_nearTo 49 = .ok (.ireturn, 1) := by decide +kernel
theorem dX2_differInOneDigit_0 : decode cX2_differInOneDigit 0 = .ok (.iload_n 0, 1) := by decide +kernel
theorem dX2_differInOneDigit_1 : decode cX2_differInOneDigit 1 = .ok (.bipush 10, 2) := by decide +kernel
theorem dX2_differInOneDigit_3 : decode cX2_differInOneDigit 3 = .ok (.idiv, 1) := by decide +kernel
theorem dX2_differInOneDigit_4 : decode cX2_differInOneDigit 4 = .ok (.iload_n 1, 1) := by decide +kernel
theorem dX2_differInOneDigit_5 : decode cX2_differInOneDigit 5 = .ok (.bipush 10, 2) := by decide +kernel
theorem dX2_differInOneDigit_7 : decode cX2_differInOneDigit 7 = .ok (.idiv, 1) := by decide +kernel
theorem dX2_differInOneDigit_8 : decode cX2_differInOneDigit 8 = .ok (.if_icmp .eq 7, 3) := by decide +kernel
theorem dX2_differInOneDigit_11 : decode cX2_differInOneDigit 11 = .ok (.iconst 1, 1) := by decide +kernel
theorem dX2_differInOneDigit_12 : decode cX2_differInOneDigit 12 = .ok (.goto 4, 3) := by decide +kernel
theorem dX2_differInOneDigit_15 : decode cX2_differInOneDigit 15 = .ok (.iconst 0, 1) := by decide +kernel
theorem dX2_differInOneDigit_16 : decode cX2_differInOneDigit 16 = .ok (.istore_n 2, 1) := by decide +kernel
theorem dX2_differInOneDigit_17 : decode cX2_differInOneDigit 17 = .ok (.iload_n 0, 1) := by decide +kernel
theorem dX2_differInOneDigit_18 : decode cX2_differInOneDigit 18 = .ok (.bipush 10, 2) := by decide +kernel
theorem dX2_differInOneDigit_20 : decode cX2_differInOneDigit 20 = .ok (.irem, 1) := by decide +kernel
theorem dX2_differInOneDigit_21 : decode cX2_differInOneDigit 21 = .ok (.iload_n 1, 1) := by decide +kernel
theorem dX2_differInOneDigit_22 : decode cX2_differInOneDigit 22 = .ok (.bipush 10, 2) := by decide +kernel
theorem dX2_differInOneDigit_24 : decode cX2_differInOneDigit 24 = .ok (.irem, 1) := by decide +kernel
theorem dX2_differInOneDigit_25 : decode cX2_differInOneDigit 25 = .ok (.if_icmp .eq 7, 3) := by decide +kernel
theorem dX2_differInOneDigit_28 : decode cX2_differInOneDigit 28 = .ok (.iconst 1, 1) := by decide +kernel
theorem dX2_differInOneDigit_29 : decode cX2_differInOneDigit 29 = .ok (.goto 4, 3) := by decide +kernel
theorem dX2_differInOneDigit_32 : decode cX2_differInOneDigit 32 = .ok (.iconst 0, 1) := by decide +kernel
theorem dX2_differInOneDigit_33 : decode cX2_differInOneDigit 33 = .ok (.istore_n 3, 1) := by decide +kernel
theorem dX2_differInOneDigit_34 : decode cX2_differInOneDigit 34 = .ok (.iload_n 2, 1) := by decide +kernel
theorem dX2_differInOneDigit_35 : decode cX2_differInOneDigit 35 = .ok (.iload_n 3, 1) := by decide +kernel
theorem dX2_differInOneDigit_36 : decode cX2_differInOneDigit 36 = .ok (.if_icmp .eq 7, 3) := by decide +kernel
theorem dX2_differInOneDigit_39 : decode cX2_differInOneDigit 39 = .ok (.iconst 1, 1) := by decide +kernel
theorem dX2_differInOneDigit_40 : decode cX2_differInOneDigit 40 = .ok (.goto 4, 3) := by decide +kernel
theorem dX2_differInOneDigit_43 : decode cX2_differInOneDigit 43 = .ok (.iconst 0, 1) := by decide +kernel
theorem dX2_differInOneDigit_44 : decode cX2_differInOneDigit 44 = .ok (.ireturn, 1) := by decide +kernel
theorem dX3_init_0 : decode cX3_init 0 = .ok (.aload_n 0, 1) := by decide +kernel
theorem dX3_init_1 : decode cX3_init 1 = .ok (.invokespecial 3, 3) := by decide +kernel
theorem dX3_init_4 : decode cX3_init 4 = .ok (.aload_n 0, 1) := by decide +kernel
theorem dX3_init_5 : decode cX3_init 5 = .ok (.iconst 0, 1) := by decide +kernel
theorem dX3_init_6 : decode cX3_init 6 = .ok (.iload_n 1, 1) := by decide +kernel
theorem dX3_init_7 : decode cX3_init 7 = .ok (.invokestatic 9, 3) := by decide +kernel
theorem dX3_init_10 : decode cX3_init 10 = .ok (.newarray .int, 2) := by decide +kernel
theorem dX3_init_12 : decode cX3_init 12 = .ok (.putfield 15, 3) := by decide +kernel
theorem dX3_init_15 : decode cX3_init 15 = .ok (.aload_n 0, 1) := by decide +kernel
theorem dX3_init_16 : decode cX3_init 16 = .ok (.iconst 0, 1) := by decide +kernel
theorem dX3_init_17 : decode cX3_init 17 = .ok (.putfield 21, 3) := by decide +kernel
theorem dX3_init_20 : decode cX3_init 20 = .ok (.return_, 1) := by decide +kernel
theorem dX3_size_0 : decode cX3_size 0 = .ok (.aload_n 0, 1) := by decide +kernel
theorem dX3_size_1 : decode cX3_size 1 = .ok (.getfield 21, 3) := by decide +kernel
theorem dX3_size_4 : decode cX3_size 4 = .ok (.ireturn, 1) := by decide +kernel
theorem dX3_isFull_0 : decode cX3_isFull 0 = .ok (.aload_n 0, 1) := by decide +kernel
theorem dX3_isFull_1 : decode cX3_isFull 1 = .ok (.getfield 21, 3) := by decide +kernel
theorem dX3_isFull_4 : decode cX3_isFull 4 = .ok (.aload_n 0, 1) := by decide +kernel
theorem dX3_isFull_5 : decode cX3_isFull 5 = .ok (.getfield 15, 3) := by decide +kernel
theorem dX3_isFull_8 : decode cX3_isFull 8 = .ok (.arraylength, 1) := by decide +kernel
theorem dX3_isFull_9 : decode cX3_isFull 9 = .ok (.if_icmp .lt 7, 3) := by decide +kernel
theorem dX3_isFull_12 : decode cX3_isFull 12 = .ok (.iconst 1, 1) := by decide +kernel
theorem dX3_isFull_13 : decode cX3_isFull 13 = .ok (.goto 4, 3) := by decide +kernel
theorem dX3_isFull_16 : decode cX3_isFull 16 = .ok (.iconst 0, 1) := by decide +kernel
theorem dX3_isFull_17 : decode cX3_isFull 17 = .ok (.ireturn, 1) := by decide +kernel
theorem dX3_empty_0 : decode cX3_empty 0 = .ok (.aload_n 0, 1) := by decide +kernel
theorem dX3_empty_1 : decode cX3_empty 1 = .ok (.iconst 0, 1) := by decide +kernel
theorem dX3_empty_2 : decode cX3_empty 2 = .ok (.putfield 21, 3) := by decide +kernel
theorem dX3_empty_5 : decode cX3_empty 5 = .ok (.return_, 1) := by decide +kernel
theorem dX3_add_0 : decode cX3_add 0 = .ok (.aload_n 0, 1) := by decide +kernel
theorem dX3_add_1 : decode cX3_add 1 = .ok (.getfield 21, 3) := by decide +kernel
theorem dX3_add_4 : decode cX3_add 4 = .ok (.aload_n 0, 1) := by decide +kernel
theorem dX3_add_5 : decode cX3_add 5 = .ok (.getfield 15, 3) := by decide +kernel
theorem dX3_add_8 : decode cX3_add 8 = .ok (.arraylength, 1) := by decide +kernel
theorem dX3_add_9 : decode cX3_add 9 = .ok (.if_icmp .ge 23, 3) := by decide +kernel
theorem dX3_add_12 : decode cX3_add 12 = .ok (.aload_n 0, 1) := by decide +kernel
theorem dX3_add_13 : decode cX3_add 13 = .ok (.getfield 15, 3) := by decide +kernel
theorem dX3_add_16 : decode cX3_add 16 = .ok (.aload_n 0, 1) := by decide +kernel
theorem dX3_add_17 : decode cX3_add 17 = .ok (.getfield 21, 3) := by decide +kernel
theorem dX3_add_20 : decode cX3_add 20 = .ok (.iload_n 1, 1) := by decide +kernel
theorem dX3_add_21 : decode cX3_add 21 = .ok (.iastore, 1) := by decide +kernel
theorem dX3_add_22 : decode cX3_add 22 = .ok (.aload_n 0, 1) := by decide +kernel
theorem dX3_add_23 : decode cX3_add 23 = .ok (.dup, 1) := by decide +kernel
theorem dX3_add_24 : decode cX3_add 24 = .ok (.getfield 21, 3) := by decide +kernel
theorem dX3_add_27 : decode cX3_add 27 = .ok (.iconst 1, 1) := by decide +kernel
theorem dX3_add_28 : decode cX3_add 28 = .ok (.iadd, 1) := by decide +kernel
theorem dX3_add_29 : decode cX3_add 29 = .ok (.putfield 21, 3) := by decide +kernel
theorem dX3_add_32 : decode cX3_add 32 = .ok (.return_, 1) := by decide +kernel
theorem dX3_addNumber_0 : decode cX3_addNumber 0 = .ok (.aload_n 0, 1) := by decide +kernel
theorem dX3_addNumber_1 : decode cX3_addNumber 1 = .ok (.getfield 21, 3) := by decide +kernel
theorem dX3_addNumber_4 : decode cX3_addNumber 4 = .ok (.istore 4, 2) := by decide +kernel
theorem dX3_addNumber_6 : decode cX3_addNumber 6 = .ok (.iconst 0, 1) := by decide +kernel
theorem dX3_addNumber_7 : decode cX3_addNumber 7 = .ok (.istore 5, 2) := by decide +kernel
theorem dX3_addNumber_9 : decode cX3_addNumber 9 = .ok (.iload 5, 2) := by decide +kernel
theorem dX3_addNumber_11 : decode cX3_addNumber 11 = .ok (.iload_n 3, 1) := by decide +kernel
theorem dX3_addNumber_12 : decode cX3_addNumber 12 = .ok (.if_icmp .ge 14, 3) := by decide +kernel
theorem dX3_addNumber_15 : decode cX3_addNumber 15 = .ok (.aload_n 0, 1) := by decide +kernel
theorem dX3_addNumber_16 : decode cX3_addNumber 16 = .ok (.iconst 0, 1) := by decide +kernel
theorem dX3_addNumber_17 : decode cX3_addNumber 17 = .ok (.invokevirtual 25, 3) := by decide +kernel
theorem dX3_addNumber_20 : decode cX3_addNumber 20 = .ok (.iinc 5 1, 3) := by decide +kernel
theorem dX3_addNumber_23 : decode cX3_addNumber 23 = .ok (.goto (-14), 3) := by decide +kernel
theorem dX3_addNumber_26 : decode cX3_addNumber 26 = .ok (.lload_n 1, 1) := by decide +kernel
theorem dX3_addNumber_27 : decode cX3_addNumber 27 = .ok (.lstore 5, 2) := by decide +kernel
theorem dX3_addNumber_29 : decode cX3_addNumber 29 = .ok (.iload 4, 2) := by decide +kernel
theorem dX3_addNumber_31 : decode cX3_addNumber 31 = .ok (.iload_n 3, 1) := by decide +kernel
theorem dX3_addNumber_32 : decode cX3_addNumber 32 = .ok (.iadd, 1) := by decide +kernel
theorem dX3_addNumber_33 : decode cX3_addNumber 33 = .ok (.iconst 1, 1) := by decide +kernel
theorem dX3_addNumber_34 : decode cX3_addNumber 34 = .ok (.isub, 1) := by decide +kernel
theorem dX3_addNumber_35 : decode cX3_addNumber 35 = .ok (.istore 7, 2) := by decide +kernel
theorem dX3_addNumber_37 : decode cX3_addNumber 37 = .ok (.iload 7, 2) := by decide +kernel
theorem dX3_addNumber_39 : decode cX3_addNumber 39 = .ok (.iload 4, 2) := by decide +kernel
theorem dX3_addNumber_41 : decode cX3_addNumber 41 = .ok (.if_icmp .lt 30, 3) := by decide +kernel
theorem dX3_addNumber_44 : decode cX3_addNumber 44 = .ok (.aload_n 0, 1) := by decide +kernel
theorem dX3_addNumber_45 : decode cX3_addNumber 45 = .ok (.iload 7, 2) := by decide +kernel
theorem dX3_addNumber_47 : decode cX3_addNumber 47 = .ok (.lload 5, 2) := by decide +kernel
theorem dX3_addNumber_49 : decode cX3_addNumber 49 = .ok (.ldc2_w 29, 3) := by decide +kernel
theorem dX3_addNumber_52 : decode cX3_addNumber 52 = .ok (.lrem, 1) := by decide +kernel
theorem dX3_addNumber_53 : decode cX3_addNumber 53 = .ok (.l2i, 1) := by decide +kernel
theorem dX3_addNumber_54 : decode cX3_addNumber 54 = .ok (.invokevirtual 31, 3) := by decide +kernel
theorem dX3_addNumber_57 : decode cX3_addNumber 57 = .ok (.lload 5, 2) := by decide +kernel
theorem dX3_addNumber_59 : decode cX3_addNumber 59 = .ok (.ldc2_w 29, 3) := by decide +kernel
theorem dX3_addNumber_62 : decode cX3_addNumber 62 = .ok (.ldiv, 1) := by decide +kernel
theorem dX3_addNumber_63 : decode cX3_addNumber 63 = .ok (.lstore 5, 2) := by decide +kernel
theorem dX3_addNumber_65 : decode cX3_addNumber 65 = .ok (.iinc 7 (-1), 3) := by decide +kernel
theorem dX3_addNumber_68 : decode cX3_addNumber 68 = .ok (.goto (-31), 3) := by decide +kernel
theorem dX3_addNumber_71 : decode cX3_addNumber 71 = .ok (.return_, 1) := by decide +kernel
theorem dX3_zeros_0 : decode cX3_zeros 0 = .ok (.aload_n 0, 1) := by decide +kernel
theorem dX3_zeros_1 : decode cX3_zeros 1 = .ok (.iconst 0, 1) := by decide +kernel
theorem dX3_zeros_2 : decode cX3_zeros 2 = .ok (.iload_n 1, 1) := by decide +kernel
theorem dX3_zeros_3 : decode cX3_zeros 3 = .ok (.aload_n 0, 1) := by decide +kernel
theorem dX3_zeros_4 : decode cX3_zeros 4 = .ok (.getfield 15, 3) := by decide +kernel
theorem dX3_zeros_7 : decode cX3_zeros 7 = .ok (.arraylength, 1) := by decide +kernel
theorem dX3_zeros_8 : decode cX3_zeros 8 = .ok (.invokestatic 35, 3) := by decide +kernel
theorem dX3_zeros_11 : decode cX3_zeros 11 = .ok (.invokestatic 9, 3) := by decide +kernel
theorem dX3_zeros_14 : decode cX3_zeros 14 = .ok (.putfield 21, 3) := by decide +kernel
theorem dX3_zeros_17 : decode cX3_zeros 17 = .ok (.iconst 0, 1) := by decide +kernel
theorem dX3_zeros_18 : decode cX3_zeros 18 = .ok (.istore_n 2, 1) := by decide +kernel
theorem dX3_zeros_19 : decode cX3_zeros 19 = .ok (.iload_n 2, 1) := by decide +kernel
theorem dX3_zeros_20 : decode cX3_zeros 20 = .ok (.aload_n 0, 1) := by decide +kernel
theorem dX3_zeros_21 : decode cX3_zeros 21 = .ok (.getfield 21, 3) := by decide +kernel
theorem dX3_zeros_24 : decode cX3_zeros 24 = .ok (.if_icmp .ge 16, 3) := by decide +kernel
theorem dX3_zeros_27 : decode cX3_zeros 27 = .ok (.aload_n 0, 1) := by decide +kernel
theorem dX3_zeros_28 : decode cX3_zeros 28 = .ok (.getfield 15, 3) := by decide +kernel
theorem dX3_zeros_31 : decode cX3_zeros 31 = .ok (.iload_n 2, 1) := by decide +kernel
theorem dX3_zeros_32 : decode cX3_zeros 32 = .ok (.iconst 0, 1) := by decide +kernel
theorem dX3_zeros_33 : decode cX3_zeros 33 = .ok (.iastore, 1) := by decide +kernel
theorem dX3_zeros_34 : decode cX3_zeros 34 = .ok (.iinc 2 1, 3) := by decide +kernel
theorem dX3_zeros_37 : decode cX3_zeros 37 = .ok (.goto (-18), 3) := by decide +kernel
theorem dX3_zeros_40 : decode cX3_zeros 40 = .ok (.return_, 1) := by decide +kernel
theorem dX3_put_0 : decode cX3_put 0 = .ok (.iload_n 1, 1) := by decide +kernel
theorem dX3_put_1 : decode cX3_put 1 = .ok (.ifCond .lt 18, 3) := by decide +kernel
theorem dX3_put_4 : decode cX3_put 4 = .ok (.iload_n 1, 1) := by decide +kernel
theorem dX3_put_5 : decode cX3_put 5 = .ok (.aload_n 0, 1) := by decide +kernel
theorem dX3_put_6 : decode cX3_put 6 = .ok (.getfield 21, 3) := by decide +kernel
theorem dX3_put_9 : decode cX3_put 9 = .ok (.if_icmp .ge 10, 3) := by decide +kernel
theorem dX3_put_12 : decode cX3_put 12 = .ok (.aload_n 0, 1) := by decide +kernel
theorem dX3_put_13 : decode cX3_put 13 = .ok (.getfield 15, 3) := by decide +kernel
theorem dX3_put_16 : decode cX3_put 16 = .ok (.iload_n 1, 1) := by decide +kernel
theorem dX3_put_17 : decode cX3_put 17 = .ok (.iload_n 2, 1) := by decide +kernel
theorem dX3_put_18 : decode cX3_put 18 = .ok (.iastore, 1) := by decide +kernel
theorem dX3_put_19 : decode cX3_put 19 = .ok (.return_, 1) := by decide +kernel
theorem dX3_at_0 : decode cX3_at 0 = .ok (.iload_n 1, 1) := by decide +kernel
theorem dX3_at_1 : decode cX3_at 1 = .ok (.ifCond .lt 20, 3) := by decide +kernel
theorem dX3_at_4 : decode cX3_at 4 = .ok (.iload_n 1, 1) := by decide +kernel
theorem dX3_at_5 : decode cX3_at 5 = .ok (.aload_n 0, 1) := by decide +kernel
theorem dX3_at_6 : decode cX3_at 6 = .ok (.getfield 21, 3) := by decide +kernel
theorem dX3_at_9 : decode cX3_at 9 = .ok (.if_icmp .ge 12, 3) := by decide +kernel
theorem dX3_at_12 : decode cX3_at 12 = .ok (.aload_n 0, 1) := by decide +kernel
theorem dX3_at_13 : decode cX3_at 13 = .ok (.getfield 15, 3) := by decide +kernel
theorem dX3_at_16 : decode cX3_at 16 = .ok (.iload_n 1, 1) := by decide +kernel
theorem dX3_at_17 : decode cX3_at 17 = .ok (.iaload, 1) := by decide +kernel
theorem dX3_at_18 : decode cX3_at 18 = .ok (.goto 4, 3) := by decide +kernel
theorem dX3_at_21 : decode cX3_at 21 = .ok (.iconst (-1), 1) := by decide +kernel
theorem dX3_at_22 : decode cX3_at 22 = .ok (.ireturn, 1) := by decide +kernel
theorem dX3_nextSeparator_0 : decode cX3_nextSeparator 0 = .ok (.iload_n 1, 1) := by decide +kernel
theorem dX3_nextSeparator_1 : decode cX3_nextSeparator 1 = .ok (.istore_n 3, 1) := by decide +kernel
theorem dX3_nextSeparator_2 : decode cX3_nextSeparator 2 = .ok (.iload_n 3, 1) := by decide +kernel
theorem dX3_nextSeparator_3 : decode cX3_nextSeparator 3 = .ok (.iload_n 2, 1) := by decide +kernel
theorem dX3_nextSeparator_4 : decode cX3_nextSeparator 4 = .ok (.if_icmp .ge 21, 3) := by decide +kernel
theorem dX3_nextSeparator_7 : decode cX3_nextSeparator 7 = .ok (.aload_n 0, 1) := by decide +kernel
theorem dX3_nextSeparator_8 : decode cX3_nextSeparator 8 = .ok (.iload_n 3, 1) := by decide +kernel
theorem dX3_nextSeparator_9 : decode cX3_nextSeparator 9 = .ok (.invokevirtual 38, 3) := by decide +kernel
theorem dX3_nextSeparator_12 : decode cX3_nextSeparator 12 = .ok (.bipush 10, 2) := by decide +kernel
theorem dX3_nextSeparator_14 : decode cX3_nextSeparator 14 = .ok (.if_icmp .ne 5, 3) := by decide +kernel
theorem dX3_nextSeparator_17 : decode cX3_nextSeparator 17 = .ok (.iload_n 3, 1) := by decide +kernel
theorem dX3_nextSeparator_18 : decode cX3_nextSeparator 18 = .ok (.ireturn, 1) := by decide +kernel
theorem dX3_nextSeparator_19 : decode cX3_nextSeparator 19 = .ok (.iinc 3 1, 3) := by decide +kernel
theorem dX3_nextSeparator_22 : decode cX3_nextSeparator 22 = .ok (.goto (-20), 3) := by decide +kernel
theorem dX3_nextSeparator_25 : decode cX3_nextSeparator 25 = .ok (.iload_n 2, 1) := by decide +kernel
theorem dX3_nextSeparator_26 : decode cX3_nextSeparator 26 = .ok (.ireturn, 1) := by decide +kernel
theorem dX3_numberAt_0 : decode cX3_numberAt 0 = .ok (.lconst 0, 1) := by decide +kernel
theorem dX3_numberAt_1 : decode cX3_numberAt 1 = .ok (.lstore_n 3, 1) := by decide +kernel
theorem dX3_numberAt_2 : decode cX3_numberAt 2 = .ok (.iload_n 1, 1) := by decide +kernel
theorem dX3_numberAt_3 : decode cX3_numberAt 3 = .ok (.istore 5, 2) := by decide +kernel
theorem dX3_numberAt_5 : decode cX3_numberAt 5 = .ok (.iload 5, 2) := by decide +kernel
theorem dX3_numberAt_7 : decode cX3_numberAt 7 = .ok (.iload_n 2, 1) := by decide +kernel
theorem dX3_numberAt_8 : decode cX3_numberAt 8 = .ok (.if_icmp .ge 23, 3) := by decide +kernel
theorem dX3_numberAt_11 : decode cX3_numberAt 11 = .ok (.lload_n 3, 1) := by decide +kernel
theorem dX3_numberAt_12 : decode cX3_numberAt 12 = .ok (.ldc2_w 29, 3) := by decide +kernel
theorem dX3_numberAt_15 : decode cX3_numberAt 15 = .ok (.lmul, 1) := by decide +kernel
theorem dX3_numberAt_16 : decode cX3_numberAt 16 = .ok (.aload_n 0, 1) := by decide +kernel
theorem dX3_numberAt_17 : decode cX3_numberAt 17 = .ok (.iload 5, 2) := by decide +kernel
theorem dX3_numberAt_19 : decode cX3_numberAt 19 = .ok (.invokevirtual 38, 3) := by decide +kernel
theorem dX3_numberAt_22 : decode cX3_numberAt 22 = .ok (.i2l, 1) := by decide +kernel
theorem dX3_numberAt_23 : decode cX3_numberAt 23 = .ok (.ladd, 1) := by decide +kernel
theorem dX3_numberAt_24 : decode cX3_numberAt 24 = .ok (.lstore_n 3, 1) := by decide +kernel
theorem dX3_numberAt_25 : decode cX3_numberAt 25 = .ok (.iinc 5 1, 3) := by decide +kernel
theorem dX3_numberAt_28 : decode cX3_numberAt 28 = .ok (.goto (-23), 3) := by decide +kernel
theorem dX3_numberAt_31 : decode cX3_numberAt 31 = .ok (.lload_n 3, 1) := by decide +kernel
theorem dX3_numberAt_32 : decode cX3_numberAt 32 = .ok (.lreturn, 1) := by decide +kernel
theorem dX4_init_0 : decode cX4_init 0 = .ok (.aload_n 0, 1) := by decide +kernel
theorem dX4_init_1 : decode cX4_init 1 = .ok (.invokespecial 3, 3) := by decide +kernel
theorem dX4_init_4 : decode cX4_init 4 = .ok (.aload_n 0, 1) := by decide +kernel
theorem dX4_init_5 : decode cX4_init 5 = .ok (.sipush 240, 3) := by decide +kernel
theorem dX4_init_8 : decode cX4_init 8 = .ok (.newarray .long, 2) := by decide +kernel
theorem dX4_init_10 : decode cX4_init 10 = .ok (.putfield 9, 3) := by decide +kernel
theorem dX4_init_13 : decode cX4_init 13 = .ok (.aload_n 0, 1) := by decide +kernel
theorem dX4_init_14 : decode cX4_init 14 = .ok (.sipush 320, 3) := by decide +kernel
theorem dX4_init_17 : decode cX4_init 17 = .ok (.newarray .int, 2) := by decide +kernel
theorem dX4_init_19 : decode cX4_init 19 = .ok (.putfield 15, 3) := by decide +kernel
theorem dX4_init_22 : decode cX4_init 22 = .ok (.aload_n 0, 1) := by decide +kernel
theorem dX4_init_23 : decode cX4_init 23 = .ok (.getfield 15, 3) := by decide +kernel
theorem dX4_init_26 : decode cX4_init 26 = .ok (.iconst (-1), 1) := by decide +kernel
theorem dX4_init_27 : decode cX4_init 27 = .ok (.invokestatic 19, 3) := by decide +kernel
theorem dX4_init_30 : decode cX4_init 30 = .ok (.aload_n 0, 1) := by decide +kernel
theorem dX4_init_31 : decode cX4_init 31 = .ok (.iconst 0, 1) := by decide +kernel
theorem dX4_init_32 : decode cX4_init 32 = .ok (.putfield 25, 3) := by decide +kernel
theorem dX4_init_35 : decode cX4_init 35 = .ok (.return_, 1) := by decide +kernel
theorem dX4_size_0 : decode cX4_size 0 = .ok (.aload_n 0, 1) := by decide +kernel
theorem dX4_size_1 : decode cX4_size 1 = .ok (.getfield 25, 3) := by decide +kernel
theorem dX4_size_4 : decode cX4_size 4 = .ok (.ireturn, 1) := by decide +kernel
theorem dX4_isFull_0 : decode cX4_isFull 0 = .ok (.aload_n 0, 1) := by decide +kernel
theorem dX4_isFull_1 : decode cX4_isFull 1 = .ok (.getfield 25, 3) := by decide +kernel
theorem dX4_isFull_4 : decode cX4_isFull 4 = .ok (.bipush 40, 2) := by decide +kernel
theorem dX4_isFull_6 : decode cX4_isFull 6 = .ok (.if_icmp .lt 7, 3) := by decide +kernel
theorem dX4_isFull_9 : decode cX4_isFull 9 = .ok (.iconst 1, 1) := by decide +kernel
theorem dX4_isFull_10 : decode cX4_isFull 10 = .ok (.goto 4, 3) := by decide +kernel
theorem dX4_isFull_13 : decode cX4_isFull 13 = .ok (.iconst 0, 1) := by decide +kernel
theorem dX4_isFull_14 : decode cX4_isFull 14 = .ok (.ireturn, 1) := by decide +kernel
theorem dX4_placeOf_0 : decode cX4_placeOf 0 = .ok (.iconst 0, 1) := by decide +kernel
theorem dX4_placeOf_1 : decode cX4_placeOf 1 = .ok (.istore_n 2, 1) := by decide +kernel
theorem dX4_placeOf_2 : decode cX4_placeOf 2 = .ok (.iload_n 2, 1) := by decide +kernel
theorem dX4_placeOf_3 : decode cX4_placeOf 3 = .ok (.aload_n 0, 1) := by decide +kernel
theorem dX4_placeOf_4 : decode cX4_placeOf 4 = .ok (.getfield 25, 3) := by decide +kernel
theorem dX4_placeOf_7 : decode cX4_placeOf 7 = .ok (.if_icmp .ge 20, 3) := by decide +kernel
theorem dX4_placeOf_10 : decode cX4_placeOf 10 = .ok (.aload_n 0, 1) := by decide +kernel
theorem dX4_placeOf_11 : decode cX4_placeOf 11 = .ok (.aload_n 1, 1) := by decide +kernel
theorem dX4_placeOf_12 : decode cX4_placeOf 12 = .ok (.iload_n 2, 1) := by decide +kernel
theorem dX4_placeOf_13 : decode cX4_placeOf 13 = .ok (.invokevirtual 29, 3) := by decide +kernel
theorem dX4_placeOf_16 : decode cX4_placeOf 16 = .ok (.ifCond .eq 5, 3) := by decide +kernel
theorem dX4_placeOf_19 : decode cX4_placeOf 19 = .ok (.iload_n 2, 1) := by decide +kernel
theorem dX4_placeOf_20 : decode cX4_placeOf 20 = .ok (.ireturn, 1) := by decide +kernel
theorem dX4_placeOf_21 : decode cX4_placeOf 21 = .ok (.iinc 2 1, 3) := by decide +kernel
theorem dX4_placeOf_24 : decode cX4_placeOf 24 = .ok (.goto (-22), 3) := by decide +kernel
theorem dX4_placeOf_27 : decode cX4_placeOf 27 = .ok (.iconst (-1), 1) := by decide +kernel
theorem dX4_placeOf_28 : decode cX4_placeOf 28 = .ok (.ireturn, 1) := by decide +kernel
theorem dX4_add_0 : decode cX4_add 0 = .ok (.aload_n 0, 1) := by decide +kernel
theorem dX4_add_1 : decode cX4_add 1 = .ok (.invokevirtual 33, 3) := by decide +kernel
theorem dX4_add_4 : decode cX4_add 4 = .ok (.ifCond .eq 5, 3) := by decide +kernel
theorem dX4_add_7 : decode cX4_add 7 = .ok (.iconst (-1), 1) := by decide +kernel
theorem dX4_add_8 : decode cX4_add 8 = .ok (.ireturn, 1) := by decide +kernel
theorem dX4_add_9 : decode cX4_add 9 = .ok (.iconst 0, 1) := by decide +kernel
theorem dX4_add_10 : decode cX4_add 10 = .ok (.istore_n 2, 1) := by decide +kernel
theorem dX4_add_11 : decode cX4_add 11 = .ok (.iload_n 2, 1) := by decide +kernel
theorem dX4_add_12 : decode cX4_add 12 = .ok (.bipush 6, 2) := by decide +kernel
theorem dX4_add_14 : decode cX4_add 14 = .ok (.if_icmp .ge 28, 3) := by decide +kernel
theorem dX4_add_17 : decode cX4_add 17 = .ok (.aload_n 0, 1) := by decide +kernel
theorem dX4_add_18 : decode cX4_add 18 = .ok (.getfield 9, 3) := by decide +kernel
theorem dX4_add_21 : decode cX4_add 21 = .ok (.aload_n 0, 1) := by decide +kernel
theorem dX4_add_22 : decode cX4_add 22 = .ok (.getfield 25, 3) := by decide +kernel
theorem dX4_add_25 : decode cX4_add 25 = .ok (.bipush 6, 2) := by decide +kernel
theorem dX4_add_27 : decode cX4_add 27 = .ok (.imul, 1) := by decide +kernel
theorem dX4_add_28 : decode cX4_add 28 = .ok (.iload_n 2, 1) := by decide +kernel
theorem dX4_add_29 : decode cX4_add 29 = .ok (.iadd, 1) := by decide +kernel
theorem dX4_add_30 : decode cX4_add 30 = .ok (.aload_n 1, 1) := by decide +kernel
theorem dX4_add_31 : decode cX4_add 31 = .ok (.iload_n 2, 1) := by decide +kernel
theorem dX4_add_32 : decode cX4_add 32 = .ok (.invokestatic 37, 3) := by decide +kernel
theorem dX4_add_35 : decode cX4_add 35 = .ok (.lastore, 1) := by decide +kernel
theorem dX4_add_36 : decode cX4_add 36 = .ok (.iinc 2 1, 3) := by decide +kernel
theorem dX4_add_39 : decode cX4_add 39 = .ok (.goto (-28), 3) := by decide +kernel
theorem dX4_add_42 : decode cX4_add 42 = .ok (.aload_n 0, 1) := by decide +kernel
theorem dX4_add_43 : decode cX4_add 43 = .ok (.dup, 1) := by decide +kernel
theorem dX4_add_44 : decode cX4_add 44 = .ok (.getfield 25, 3) := by decide +kernel
theorem dX4_add_47 : decode cX4_add 47 = .ok (.iconst 1, 1) := by decide +kernel
theorem dX4_add_48 : decode cX4_add 48 = .ok (.iadd, 1) := by decide +kernel
theorem dX4_add_49 : decode cX4_add 49 = .ok (.putfield 25, 3) := by decide +kernel
theorem dX4_add_52 : decode cX4_add 52 = .ok (.aload_n 0, 1) := by decide +kernel
theorem dX4_add_53 : decode cX4_add 53 = .ok (.getfield 25, 3) := by decide +kernel
theorem dX4_add_56 : decode cX4_add 56 = .ok (.iconst 1, 1) := by decide +kernel
theorem dX4_add_57 : decode cX4_add 57 = .ok (.isub, 1) := by decide +kernel
theorem dX4_add_58 : decode cX4_add 58 = .ok (.ireturn, 1) := by decide +kernel
theorem dX4_accepts_0 : decode cX4_accepts 0 = .ok (.iload_n 1, 1) := by decide +kernel
theorem dX4_accepts_1 : decode cX4_accepts 1 = .ok (.ifCond .lt 18, 3) := by decide +kernel
theorem dX4_accepts_4 : decode cX4_accepts 4 = .ok (.iload_n 1, 1) := by decide +kernel
theorem dX4_accepts_5 : decode cX4_accepts 5 = .ok (.aload_n 0, 1) := by decide +kernel
theorem dX4_accepts_6 : decode cX4_accepts 6 = .ok (.getfield 25, 3) := by decide +kernel
theorem dX4_accepts_9 : decode cX4_accepts 9 = .ok (.if_icmp .ge 10, 3) := by decide +kernel
theorem dX4_accepts_12 : decode cX4_accepts 12 = .ok (.iload_n 2, 1) := by decide +kernel
theorem dX4_accepts_13 : decode cX4_accepts 13 = .ok (.invokestatic 41, 3) := by decide +kernel
theorem dX4_accepts_16 : decode cX4_accepts 16 = .ok (.ifCond .ne 5, 3) := by decide +kernel
theorem dX4_accepts_19 : decode cX4_accepts 19 = .ok (.iconst 0, 1) := by decide +kernel
theorem dX4_accepts_20 : decode cX4_accepts 20 = .ok (.ireturn, 1) := by decide +kernel
theorem dX4_accepts_21 : decode cX4_accepts 21 = .ok (.iload_n 1, 1) := by decide +kernel
theorem dX4_accepts_22 : decode cX4_accepts 22 = .ok (.bipush 8, 2) := by decide +kernel
theorem dX4_accepts_24 : decode cX4_accepts 24 = .ok (.imul, 1) := by decide +kernel
theorem dX4_accepts_25 : decode cX4_accepts 25 = .ok (.iload_n 2, 1) := by decide +kernel
theorem dX4_accepts_26 : decode cX4_accepts 26 = .ok (.iadd, 1) := by decide +kernel
theorem dX4_accepts_27 : decode cX4_accepts 27 = .ok (.istore 4, 2) := by decide +kernel
theorem dX4_accepts_29 : decode cX4_accepts 29 = .ok (.aload_n 0, 1) := by decide +kernel
theorem dX4_accepts_30 : decode cX4_accepts 30 = .ok (.getfield 15, 3) := by decide +kernel
theorem dX4_accepts_33 : decode cX4_accepts 33 = .ok (.iload 4, 2) := by decide +kernel
theorem dX4_accepts_35 : decode cX4_accepts 35 = .ok (.iaload, 1) := by decide +kernel
theorem dX4_accepts_36 : decode cX4_accepts 36 = .ok (.istore 5, 2) := by decide +kernel
theorem dX4_accepts_38 : decode cX4_accepts 38 = .ok (.iload 5, 2) := by decide +kernel
theorem dX4_accepts_40 : decode cX4_accepts 40 = .ok (.iconst (-1), 1) := by decide +kernel
theorem dX4_accepts_41 : decode cX4_accepts 41 = .ok (.if_icmp .eq 14, 3) := by decide +kernel
theorem dX4_accepts_44 : decode cX4_accepts 44 = .ok (.iload_n 3, 1) := by decide +kernel
theorem dX4_accepts_45 : decode cX4_accepts 45 = .ok (.iload 5, 2) := by decide +kernel
theorem dX4_accepts_47 : decode cX4_accepts 47 = .ok (.isub, 1) := by decide +kernel
theorem dX4_accepts_48 : decode cX4_accepts 48 = .ok (.bipush 10, 2) := by decide +kernel
theorem dX4_accepts_50 : decode cX4_accepts 50 = .ok (.if_icmp .gt 5, 3) := by decide +kernel
theorem dX4_accepts_53 : decode cX4_accepts 53 = .ok (.iconst 0, 1) := by decide +kernel
theorem dX4_accepts_54 : decode cX4_accepts 54 = .ok (.ireturn, 1) := by decide +kernel
theorem dX4_accepts_55 : decode cX4_accepts 55 = .ok (.aload_n 0, 1) := by decide +kernel
theorem dX4_accepts_56 : decode cX4_accepts 56 = .ok (.getfield 15, 3) := by decide +kernel
theorem dX4_accepts_59 : decode cX4_accepts 59 = .ok (.iload 4, 2) := by decide +kernel
theorem dX4_accepts_61 : decode cX4_accepts 61 = .ok (.iload_n 3, 1) := by decide +kernel
theorem dX4_accepts_62 : decode cX4_accepts 62 = .ok (.iastore, 1) := by decide +kernel
theorem dX4_accepts_63 : decode cX4_accepts 63 = .ok (.iconst 1, 1) := by decide +kernel
theorem dX4_accepts_64 : decode cX4_accepts 64 = .ok (.ireturn, 1) := by decide +kernel
theorem dX4_isAt_0 : decode cX4_isAt 0 = .ok (.iconst 0, 1) := by decide +kernel
theorem dX4_isAt_1 : decode cX4_isAt 1 = .ok (.istore_n 3, 1) := by decide +kernel
theorem dX4_isAt_2 : decode cX4_isAt 2 = .ok (.iload_n 3, 1) := by decide +kernel
theorem dX4_isAt_3 : decode cX4_isAt 3 = .ok (.bipush 6, 2) := by decide +kernel
theorem dX4_isAt_5 : decode cX4_isAt 5 = .ok (.if_icmp .ge 31, 3) := by decide +kernel
theorem dX4_isAt_8 : decode cX4_isAt 8 = .ok (.aload_n 0, 1) := by decide +kernel
theorem dX4_isAt_9 : decode cX4_isAt 9 = .ok (.getfield 9, 3) := by decide +kernel
theorem dX4_isAt_12 : decode cX4_isAt 12 = .ok (.iload_n 2, 1) := by decide +kernel
theorem dX4_isAt_13 : decode cX4_isAt 13 = .ok (.bipush 6, 2) := by decide +kernel
theorem dX4_isAt_15 : decode cX4_isAt 15 = .ok (.imul, 1) := by decide +kernel
theorem dX4_isAt_16 : decode cX4_isAt 16 = .ok (.iload_n 3, 1) := by decide +kernel
theorem dX4_isAt_17 : decode cX4_isAt 17 = .ok (.iadd, 1) := by decide +kernel
theorem dX4_isAt_18 : decode cX4_isAt 18 = .ok (.laload, 1) := by decide +kernel
theorem dX4_isAt_19 : decode cX4_isAt 19 = .ok (.aload_n 1, 1) := by decide +kernel
theorem dX4_isAt_20 : decode cX4_isAt 20 = .ok (.iload_n 3, 1) := by decide +kernel
theorem dX4_isAt_21 : decode cX4_isAt 21 = .ok (.invokestatic 37, 3) := by decide +kernel
theorem dX4_isAt_24 : decode cX4_isAt 24 = .ok (.lcmp, 1) := by decide +kernel
theorem dX4_isAt_25 : decode cX4_isAt 25 = .ok (.ifCond .eq 5, 3) := by decide +kernel
theorem dX4_isAt_28 : decode cX4_isAt 28 = .ok (.iconst 0, 1) := by decide +kernel
theorem dX4_isAt_29 : decode cX4_isAt 29 = .ok (.ireturn, 1) := by decide +kernel
theorem dX4_isAt_30 : decode cX4_isAt 30 = .ok (.iinc 3 1, 3) := by decide +kernel
theorem dX4_isAt_33 : decode cX4_isAt 33 = .ok (.goto (-31), 3) := by decide +kernel
theorem dX4_isAt_36 : decode cX4_isAt 36 = .ok (.iconst 1, 1) := by decide +kernel
theorem dX4_isAt_37 : decode cX4_isAt 37 = .ok (.ireturn, 1) := by decide +kernel
theorem dX4_keyOf_0 : decode cX4_keyOf 0 = .ok (.iload_n 1, 1) := by decide +kernel
theorem dX4_keyOf_1 : decode cX4_keyOf 1 = .ok (.aload_n 0, 1) := by decide +kernel
theorem dX4_keyOf_2 : decode cX4_keyOf 2 = .ok (.invokevirtual 45, 3) := by decide +kernel
theorem dX4_keyOf_5 : decode cX4_keyOf 5 = .ok (.if_icmp .lt 5, 3) := by decide +kernel
theorem dX4_keyOf_8 : decode cX4_keyOf 8 = .ok (.lconst 0, 1) := by decide +kernel
theorem dX4_keyOf_9 : decode cX4_keyOf 9 = .ok (.lreturn, 1) := by decide +kernel
theorem dX4_keyOf_10 : decode cX4_keyOf 10 = .ok (.aload_n 0, 1) := by decide +kernel
theorem dX4_keyOf_11 : decode cX4_keyOf 11 = .ok (.iload_n 1, 1) := by decide +kernel
theorem dX4_keyOf_12 : decode cX4_keyOf 12 = .ok (.invokevirtual 50, 3) := by decide +kernel
theorem dX4_keyOf_15 : decode cX4_keyOf 15 = .ok (.bipush 16, 2) := by decide +kernel
theorem dX4_keyOf_17 : decode cX4_keyOf 17 = .ok (.imul, 1) := by decide +kernel
theorem dX4_keyOf_18 : decode cX4_keyOf 18 = .ok (.aload_n 0, 1) := by decide +kernel
theorem dX4_keyOf_19 : decode cX4_keyOf 19 = .ok (.iload_n 1, 1) := by decide +kernel
theorem dX4_keyOf_20 : decode cX4_keyOf 20 = .ok (.invokevirtual 54, 3) := by decide +kernel
theorem dX4_keyOf_23 : decode cX4_keyOf 23 = .ok (.iadd, 1) := by decide +kernel
theorem dX4_keyOf_24 : decode cX4_keyOf 24 = .ok (.i2l, 1) := by decide +kernel
theorem dX4_keyOf_25 : decode cX4_keyOf 25 = .ok (.lstore_n 2, 1) := by decide +kernel
theorem dX4_keyOf_26 : decode cX4_keyOf 26 = .ok (.lload_n 2, 1) := by decide +kernel
theorem dX4_keyOf_27 : decode cX4_keyOf 27 = .ok (.ldc2_w 57, 3) := by decide +kernel
theorem dX4_keyOf_30 : decode cX4_keyOf 30 = .ok (.lmul, 1) := by decide +kernel
theorem dX4_keyOf_31 : decode cX4_keyOf 31 = .ok (.aload_n 0, 1) := by decide +kernel
theorem dX4_keyOf_32 : decode cX4_keyOf 32 = .ok (.iload_n 1, 1) := by decide +kernel
theorem dX4_keyOf_33 : decode cX4_keyOf 33 = .ok (.invokevirtual 59, 3) := by decide +kernel
theorem dX4_keyOf_36 : decode cX4_keyOf 36 = .ok (.ladd, 1) := by decide +kernel
theorem dX4_keyOf_37 : decode cX4_keyOf 37 = .ok (.lreturn, 1) := by decide +kernel
theorem dX5_init_0 : decode cX5_init 0 = .ok (.aload_n 0, 1) := by decide +kernel
theorem dX5_init_1 : decode cX5_init 1 = .ok (.invokespecial 3, 3) := by decide +kernel
theorem dX5_init_4 : decode cX5_init 4 = .ok (.aload_n 0, 1) := by decide +kernel
theorem dX5_init_5 : decode cX5_init 5 = .ok (.aload_n 1, 1) := by decide +kernel
theorem dX5_init_6 : decode cX5_init 6 = .ok (.putfield 9, 3) := by decide +kernel
theorem dX5_init_9 : decode cX5_init 9 = .ok (.aload_n 0, 1) := by decide +kernel
theorem dX5_init_10 : decode cX5_init 10 = .ok (.new 15, 3) := by decide +kernel
theorem dX5_init_13 : decode cX5_init 13 = .ok (.dup, 1) := by decide +kernel
theorem dX5_init_14 : decode cX5_init 14 = .ok (.invokespecial 17, 3) := by decide +kernel
theorem dX5_init_17 : decode cX5_init 17 = .ok (.putfield 18, 3) := by decide +kernel
theorem dX5_init_20 : decode cX5_init 20 = .ok (.aload_n 0, 1) := by decide +kernel
theorem dX5_init_21 : decode cX5_init 21 = .ok (.iconst (-1), 1) := by decide +kernel
theorem dX5_init_22 : decode cX5_init 22 = .ok (.putfield 22, 3) := by decide +kernel
theorem dX5_init_25 : decode cX5_init 25 = .ok (.return_, 1) := by decide +kernel
theorem dX5_fields_0 : decode cX5_fields 0 = .ok (.aload_n 0, 1) := by decide +kernel
theorem dX5_fields_1 : decode cX5_fields 1 = .ok (.getfield 18, 3) := by decide +kernel
theorem dX5_fields_4 : decode cX5_fields 4 = .ok (.areturn, 1) := by decide +kernel
theorem dX5_unknownPrefix_0 : decode cX5_unknownPrefix 0 = .ok (.aload_n 0, 1) := by decide +kernel
theorem dX5_unknownPrefix_1 : decode cX5_unknownPrefix 1 = .ok (.getfield 22, 3) := by decide +kernel
theorem dX5_unknownPrefix_4 : decode cX5_unknownPrefix 4 = .ok (.ireturn, 1) := by decide +kernel
theorem dX5_forget_0 : decode cX5_forget 0 = .ok (.aload_n 0, 1) := by decide +kernel
theorem dX5_forget_1 : decode cX5_forget 1 = .ok (.getfield 18, 3) := by decide +kernel
theorem dX5_forget_4 : decode cX5_forget 4 = .ok (.invokevirtual 26, 3) := by decide +kernel
theorem dX5_forget_7 : decode cX5_forget 7 = .ok (.aload_n 0, 1) := by decide +kernel
theorem dX5_forget_8 : decode cX5_forget 8 = .ok (.iconst (-1), 1) := by decide +kernel
theorem dX5_forget_9 : decode cX5_forget 9 = .ok (.putfield 22, 3) := by decide +kernel
theorem dX5_forget_12 : decode cX5_forget 12 = .ok (.return_, 1) := by decide +kernel
theorem dX5_takeApart_0 : decode cX5_takeApart 0 = .ok (.aload_n 0, 1) := by decide +kernel
theorem dX5_takeApart_1 : decode cX5_takeApart 1 = .ok (.invokevirtual 29, 3) := by decide +kernel
theorem dX5_takeApart_4 : decode cX5_takeApart 4 = .ok (.aload_n 0, 1) := by decide +kernel
theorem dX5_takeApart_5 : decode cX5_takeApart 5 = .ok (.aload_n 1, 1) := by decide +kernel
theorem dX5_takeApart_6 : decode cX5_takeApart 6 = .ok (.invokevirtual 32, 3) := by decide +kernel
theorem dX5_takeApart_9 : decode cX5_takeApart 9 = .ok (.istore_n 2, 1) := by decide +kernel
theorem dX5_takeApart_10 : decode cX5_takeApart 10 = .ok (.iload_n 2, 1) := by decide +kernel
theorem dX5_takeApart_11 : decode cX5_takeApart 11 = .ok (.ifCond .ge 12, 3) := by decide +kernel
theorem dX5_takeApart_14 : decode cX5_takeApart 14 = .ok (.aload_n 0, 1) := by decide +kernel
theorem dX5_takeApart_15 : decode cX5_takeApart 15 = .ok (.getfield 18, 3) := by decide +kernel
theorem dX5_takeApart_18 : decode cX5_takeApart 18 = .ok (.invokevirtual 26, 3) := by decide +kernel
theorem dX5_takeApart_21 : decode cX5_takeApart 21 = .ok (.iload_n 2, 1) := by decide +kernel
theorem dX5_takeApart_22 : decode cX5_takeApart 22 = .ok (.ireturn, 1) := by decide +kernel
theorem dX5_takeApart_23 : decode cX5_takeApart 23 = .ok (.aload_n 0, 1) := by decide +kernel
theorem dX5_takeApart_24 : decode cX5_takeApart 24 = .ok (.getfield 18, 3) := by decide +kernel
theorem dX5_takeApart_27 : decode cX5_takeApart 27 = .ok (.invokevirtual 36, 3) := by decide +kernel
theorem dX5_takeApart_30 : decode cX5_takeApart 30 = .ok (.ireturn, 1) := by decide +kernel
theorem dX5_firstWrong_0 : decode cX5_firstWrong 0 = .ok (.aload_n 1, 1) := by decide +kernel
theorem dX5_firstWrong_1 : decode cX5_firstWrong 1 = .ok (.invokevirtual 40, 3) := by decide +kernel
theorem dX5_firstWrong_4 : decode cX5_firstWrong 4 = .ok (.iconst 1, 1) := by decide +kernel
theorem dX5_firstWrong_5 : decode cX5_firstWrong 5 = .ok (.isub, 1) := by decide +kernel
theorem dX5_firstWrong_6 : decode cX5_firstWrong 6 = .ok (.istore_n 2, 1) := by decide +kernel
theorem dX5_firstWrong_7 : decode cX5_firstWrong 7 = .ok (.aload_n 1, 1) := by decide +kernel
theorem dX5_firstWrong_8 : decode cX5_firstWrong 8 = .ok (.invokevirtual 40, 3) := by decide +kernel
theorem dX5_firstWrong_11 : decode cX5_firstWrong 11 = .ok (.iconst 4, 1) := by decide +kernel
theorem dX5_firstWrong_12 : decode cX5_firstWrong 12 = .ok (.if_icmp .lt 13, 3) := by decide +kernel
theorem dX5_firstWrong_15 : decode cX5_firstWrong 15 = .ok (.aload_n 1, 1) := by decide +kernel
theorem dX5_firstWrong_16 : decode cX5_firstWrong 16 = .ok (.iload_n 2, 1) := by decide +kernel
theorem dX5_firstWrong_17 : decode cX5_firstWrong 17 = .ok (.invokevirtual 43, 3) := by decide +kernel
theorem dX5_firstWrong_20 : decode cX5_firstWrong 20 = .ok (.bipush 10, 2) := by decide +kernel
theorem dX5_firstWrong_22 : decode cX5_firstWrong 22 = .ok (.if_icmp .ne 5, 3) := by decide +kernel
theorem dX5_firstWrong_25 : decode cX5_firstWrong 25 = .ok (.iconst (-1), 1) := by decide +kernel
theorem dX5_firstWrong_26 : decode cX5_firstWrong 26 = .ok (.ireturn, 1) := by decide +kernel
theorem dX5_firstWrong_27 : decode cX5_firstWrong 27 = .ok (.aload_n 1, 1) := by decide +kernel
theorem dX5_firstWrong_28 : decode cX5_firstWrong 28 = .ok (.iload_n 2, 1) := by decide +kernel
theorem dX5_firstWrong_29 : decode cX5_firstWrong 29 = .ok (.invokevirtual 43, 3) := by decide +kernel
theorem dX5_firstWrong_32 : decode cX5_firstWrong 32 = .ok (.aload_n 1, 1) := by decide +kernel
theorem dX5_firstWrong_33 : decode cX5_firstWrong 33 = .ok (.iload_n 2, 1) := by decide +kernel
theorem dX5_firstWrong_34 : decode cX5_firstWrong 34 = .ok (.invokestatic 47, 3) := by decide +kernel
theorem dX5_firstWrong_37 : decode cX5_firstWrong 37 = .ok (.if_icmp .eq 6, 3) := by decide +kernel
theorem dX5_firstWrong_40 : decode cX5_firstWrong 40 = .ok (.bipush (-2), 2) := by decide +kernel
theorem dX5_firstWrong_42 : decode cX5_firstWrong 42 = .ok (.ireturn, 1) := by decide +kernel
theorem dX5_firstWrong_43 : decode cX5_firstWrong 43 = .ok (.iconst 0, 1) := by decide +kernel
theorem dX5_firstWrong_44 : decode cX5_firstWrong 44 = .ok (.istore_n 3, 1) := by decide +kernel
theorem dX5_firstWrong_45 : decode cX5_firstWrong 45 = .ok (.iconst 0, 1) := by decide +kernel
theorem dX5_firstWrong_46 : decode cX5_firstWrong 46 = .ok (.istore 4, 2) := by decide +kernel
theorem dX5_firstWrong_48 : decode cX5_firstWrong 48 = .ok (.iload 4, 2) := by decide +kernel
theorem dX5_firstWrong_50 : decode cX5_firstWrong 50 = .ok (.bipush 6, 2) := by decide +kernel
theorem dX5_firstWrong_52 : decode cX5_firstWrong 52 = .ok (.if_icmp .ge 28, 3) := by decide +kernel
theorem dX5_firstWrong_55 : decode cX5_firstWrong 55 = .ok (.iload_n 3, 1) := by decide +kernel
theorem dX5_firstWrong_56 : decode cX5_firstWrong 56 = .ok (.iload_n 2, 1) := by decide +kernel
theorem dX5_firstWrong_57 : decode cX5_firstWrong 57 = .ok (.if_icmp .ge 23, 3) := by decide +kernel
theorem dX5_firstWrong_60 : decode cX5_firstWrong 60 = .ok (.aload_n 0, 1) := by decide +kernel
theorem dX5_firstWrong_61 : decode cX5_firstWrong 61 = .ok (.aload_n 1, 1) := by decide +kernel
theorem dX5_firstWrong_62 : decode cX5_firstWrong 62 = .ok (.iload_n 3, 1) := by decide +kernel
theorem dX5_firstWrong_63 : decode cX5_firstWrong 63 = .ok (.iload_n 2, 1) := by decide +kernel
theorem dX5_firstWrong_64 : decode cX5_firstWrong 64 = .ok (.invokevirtual 51, 3) := by decide +kernel
theorem dX5_firstWrong_67 : decode cX5_firstWrong 67 = .ok (.istore_n 3, 1) := by decide +kernel
theorem dX5_firstWrong_68 : decode cX5_firstWrong 68 = .ok (.iload_n 3, 1) := by decide +kernel
theorem dX5_firstWrong_69 : decode cX5_firstWrong 69 = .ok (.ifCond .ge 5, 3) := by decide +kernel
theorem dX5_firstWrong_72 : decode cX5_firstWrong 72 = .ok (.iload_n 3, 1) := by decide +kernel
theorem dX5_firstWrong_73 : decode cX5_firstWrong 73 = .ok (.ireturn, 1) := by decide +kernel
theorem dX5_firstWrong_74 : decode cX5_firstWrong 74 = .ok (.iinc 4 1, 3) := by decide +kernel
theorem dX5_firstWrong_77 : decode cX5_firstWrong 77 = .ok (.goto (-29), 3) := by decide +kernel
theorem dX5_firstWrong_80 : decode cX5_firstWrong 80 = .ok (.iload_n 3, 1) := by decide +kernel
theorem dX5_firstWrong_81 : decode cX5_firstWrong 81 = .ok (.iload_n 2, 1) := by decide +kernel
theorem dX5_firstWrong_82 : decode cX5_firstWrong 82 = .ok (.if_icmp .ge 6, 3) := by decide +kernel
theorem dX5_firstWrong_85 : decode cX5_firstWrong 85 = .ok (.bipush (-3), 2) := by decide +kernel
theorem dX5_firstWrong_87 : decode cX5_firstWrong 87 = .ok (.ireturn, 1) := by decide +kernel
theorem dX5_firstWrong_88 : decode cX5_firstWrong 88 = .ok (.aload_n 0, 1) := by decide +kernel
theorem dX5_firstWrong_89 : decode cX5_firstWrong 89 = .ok (.invokevirtual 55, 3) := by decide +kernel
theorem dX5_firstWrong_92 : decode cX5_firstWrong 92 = .ok (.ifCond .eq 7, 3) := by decide +kernel
theorem dX5_firstWrong_95 : decode cX5_firstWrong 95 = .ok (.iconst 0, 1) := by decide +kernel
theorem dX5_firstWrong_96 : decode cX5_firstWrong 96 = .ok (.goto 5, 3) := by decide +kernel
theorem dX5_firstWrong_99 : decode cX5_firstWrong 99 = .ok (.bipush (-7), 2) := by decide +kernel
theorem dX5_firstWrong_101 : decode cX5_firstWrong 101 = .ok (.ireturn, 1) := by decide +kernel
theorem dX5_takeField_0 : decode cX5_takeField 0 = .ok (.iload_n 2, 1) := by decide +kernel
theorem dX5_takeField_1 : decode cX5_takeField 1 = .ok (.iconst 2, 1) := by decide +kernel
theorem dX5_takeField_2 : decode cX5_takeField 2 = .ok (.iadd, 1) := by decide +kernel
theorem dX5_takeField_3 : decode cX5_takeField 3 = .ok (.istore 4, 2) := by decide +kernel
theorem dX5_takeField_5 : decode cX5_takeField 5 = .ok (.iload 4, 2) := by decide +kernel
theorem dX5_takeField_7 : decode cX5_takeField 7 = .ok (.iload_n 3, 1) := by decide +kernel
theorem dX5_takeField_8 : decode cX5_takeField 8 = .ok (.if_icmp .gt 15, 3) := by decide +kernel
theorem dX5_takeField_11 : decode cX5_takeField 11 = .ok (.aload_n 1, 1) := by decide +kernel
theorem dX5_takeField_12 : decode cX5_takeField 12 = .ok (.iload_n 2, 1) := by decide +kernel
theorem dX5_takeField_13 : decode cX5_takeField 13 = .ok (.iload 4, 2) := by decide +kernel
theorem dX5_takeField_15 : decode cX5_takeField 15 = .ok (.invokevirtual 59, 3) := by decide +kernel
theorem dX5_takeField_18 : decode cX5_takeField 18 = .ok (.iload 4, 2) := by decide +kernel
theorem dX5_takeField_20 : decode cX5_takeField 20 = .ok (.if_icmp .ge 6, 3) := by decide +kernel
theorem dX5_takeField_23 : decode cX5_takeField 23 = .ok (.bipush (-4), 2) := by decide +kernel
theorem dX5_takeField_25 : decode cX5_takeField 25 = .ok (.ireturn, 1) := by decide +kernel
theorem dX5_takeField_26 : decode cX5_takeField 26 = .ok (.aload_n 1, 1) := by decide +kernel
theorem dX5_takeField_27 : decode cX5_takeField 27 = .ok (.iload_n 2, 1) := by decide +kernel
theorem dX5_takeField_28 : decode cX5_takeField 28 = .ok (.iload 4, 2) := by decide +kernel
theorem dX5_takeField_30 : decode cX5_takeField 30 = .ok (.invokevirtual 63, 3) := by decide +kernel
theorem dX5_takeField_33 : decode cX5_takeField 33 = .ok (.l2i, 1) := by decide +kernel
theorem dX5_takeField_34 : decode cX5_takeField 34 = .ok (.istore 5, 2) := by decide +kernel
theorem dX5_takeField_36 : decode cX5_takeField 36 = .ok (.aload_n 0, 1) := by decide +kernel
theorem dX5_takeField_37 : decode cX5_takeField 37 = .ok (.getfield 9, 3) := by decide +kernel
theorem dX5_takeField_40 : decode cX5_takeField 40 = .ok (.iload 5, 2) := by decide +kernel
theorem dX5_takeField_42 : decode cX5_takeField 42 = .ok (.invokevirtual 67, 3) := by decide +kernel
theorem dX5_takeField_45 : decode cX5_takeField 45 = .ok (.ifCond .ne 12, 3) := by decide +kernel
theorem dX5_takeField_48 : decode cX5_takeField 48 = .ok (.aload_n 0, 1) := by decide +kernel
theorem dX5_takeField_49 : decode cX5_takeField 49 = .ok (.iload 5, 2) := by decide +kernel
theorem dX5_takeField_51 : decode cX5_takeField 51 = .ok (.putfield 22, 3) := by decide +kernel
theorem dX5_takeField_54 : decode cX5_takeField 54 = .ok (.bipush (-4), 2) := by decide +kernel
theorem dX5_takeField_56 : decode cX5_takeField 56 = .ok (.ireturn, 1) := by decide +kernel
theorem dX5_takeField_57 : decode cX5_takeField 57 = .ok (.aload_n 0, 1) := by decide +kernel
theorem dX5_takeField_58 : decode cX5_takeField 58 = .ok (.getfield 18, 3) := by decide +kernel
theorem dX5_takeField_61 : decode cX5_takeField 61 = .ok (.iload 5, 2) := by decide +kernel
theorem dX5_takeField_63 : decode cX5_takeField 63 = .ok (.invokevirtual 73, 3) := by decide +kernel
theorem dX5_takeField_66 : decode cX5_takeField 66 = .ok (.ifCond .eq 6, 3) := by decide +kernel
theorem dX5_takeField_69 : decode cX5_takeField 69 = .ok (.bipush (-4), 2) := by decide +kernel
theorem dX5_takeField_71 : decode cX5_takeField 71 = .ok (.ireturn, 1) := by decide +kernel
theorem dX5_takeField_72 : decode cX5_takeField 72 = .ok (.aload_n 0, 1) := by decide +kernel
theorem dX5_takeField_73 : decode cX5_takeField 73 = .ok (.getfield 9, 3) := by decide +kernel
theorem dX5_takeField_76 : decode cX5_takeField 76 = .ok (.iload 5, 2) := by decide +kernel
theorem dX5_takeField_78 : decode cX5_takeField 78 = .ok (.invokevirtual 74, 3) := by decide +kernel
theorem dX5_takeField_81 : decode cX5_takeField 81 = .ok (.ifCond .eq 16, 3) := by decide +kernel
theorem dX5_takeField_84 : decode cX5_takeField 84 = .ok (.aload_n 0, 1) := by decide +kernel
theorem dX5_takeField_85 : decode cX5_takeField 85 = .ok (.aload_n 1, 1) := by decide +kernel
theorem dX5_takeField_86 : decode cX5_takeField 86 = .ok (.iload 5, 2) := by decide +kernel
theorem dX5_takeField_88 : decode cX5_takeField 88 = .ok (.iload 4, 2) := by decide +kernel
theorem dX5_takeField_90 : decode cX5_takeField 90 = .ok (.iload_n 3, 1) := by decide +kernel
theorem dX5_takeField_91 : decode cX5_takeField 91 = .ok (.invokevirtual 77, 3) := by decide +kernel
