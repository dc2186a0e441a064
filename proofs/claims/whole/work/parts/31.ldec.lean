theorem dL_cell_0 : decode cL_cell 0 = .ok (.iload_n 1, 1) := by decide +kernel
theorem dL_cell_1 : decode cL_cell 1 = .ok (.aload_n 0, 1) := by decide +kernel
theorem dL_cell_2 : decode cL_cell 2 = .ok (.arraylength, 1) := by decide +kernel
theorem dL_cell_3 : decode cL_cell 3 = .ok (.if_icmp .ge 9, 3) := by decide +kernel
theorem dL_cell_6 : decode cL_cell 6 = .ok (.aload_n 0, 1) := by decide +kernel
theorem dL_cell_7 : decode cL_cell 7 = .ok (.iload_n 1, 1) := by decide +kernel
theorem dL_cell_8 : decode cL_cell 8 = .ok (.iaload, 1) := by decide +kernel
theorem dL_cell_9 : decode cL_cell 9 = .ok (.goto 4, 3) := by decide +kernel
theorem dL_cell_12 : decode cL_cell 12 = .ok (.iconst 0, 1) := by decide +kernel
theorem dL_cell_13 : decode cL_cell 13 = .ok (.ireturn, 1) := by decide +kernel
theorem dL_prefix_0 : decode cL_prefix 0 = .ok (.aload 5, 2) := by decide +kernel
theorem dL_prefix_2 : decode cL_prefix 2 = .ok (.iconst 0, 1) := by decide +kernel
theorem dL_prefix_3 : decode cL_prefix 3 = .ok (.aload_n 0, 1) := by decide +kernel
theorem dL_prefix_4 : decode cL_prefix 4 = .ok (.iload_n 1, 1) := by decide +kernel
theorem dL_prefix_5 : decode cL_prefix 5 = .ok (.iload_n 2, 1) := by decide +kernel
theorem dL_prefix_6 : decode cL_prefix 6 = .ok (.iload_n 3, 1) := by decide +kernel
theorem dL_prefix_7 : decode cL_prefix 7 = .ok (.iload 4, 2) := by decide +kernel
theorem dL_prefix_9 : decode cL_prefix 9 = .ok (.invokevirtual 7, 3) := by decide +kernel
theorem dL_prefix_12 : decode cL_prefix 12 = .ok (.i2l, 1) := by decide +kernel
theorem dL_prefix_13 : decode cL_prefix 13 = .ok (.lastore, 1) := by decide +kernel
theorem dL_prefix_14 : decode cL_prefix 14 = .ok (.goto 11, 3) := by decide +kernel
theorem dL_prefix_17 : decode cL_prefix 17 = .ok (.astore 6, 2) := by decide +kernel
theorem dL_prefix_19 : decode cL_prefix 19 = .ok (.iconst 1, 1) := by decide +kernel
theorem dL_prefix_20 : decode cL_prefix 20 = .ok (.ireturn, 1) := by decide +kernel
theorem dL_prefix_21 : decode cL_prefix 21 = .ok (.astore 6, 2) := by decide +kernel
theorem dL_prefix_23 : decode cL_prefix 23 = .ok (.iconst 2, 1) := by decide +kernel
theorem dL_prefix_24 : decode cL_prefix 24 = .ok (.ireturn, 1) := by decide +kernel
theorem dL_prefix_25 : decode cL_prefix 25 = .ok (.iconst 0, 1) := by decide +kernel
theorem dL_prefix_26 : decode cL_prefix 26 = .ok (.ireturn, 1) := by decide +kernel
theorem dL_needs_0 : decode cL_needs 0 = .ok (.aload_n 0, 1) := by decide +kernel
theorem dL_needs_1 : decode cL_needs 1 = .ok (.iload_n 1, 1) := by decide +kernel
theorem dL_needs_2 : decode cL_needs 2 = .ok (.iload_n 2, 1) := by decide +kernel
theorem dL_needs_3 : decode cL_needs 3 = .ok (.invokevirtual 17, 3) := by decide +kernel
theorem dL_needs_6 : decode cL_needs 6 = .ok (.goto 9, 3) := by decide +kernel
theorem dL_needs_9 : decode cL_needs 9 = .ok (.astore_n 3, 1) := by decide +kernel
theorem dL_needs_10 : decode cL_needs 10 = .ok (.iconst 1, 1) := by decide +kernel
theorem dL_needs_11 : decode cL_needs 11 = .ok (.ireturn, 1) := by decide +kernel
theorem dL_needs_12 : decode cL_needs 12 = .ok (.astore_n 3, 1) := by decide +kernel
theorem dL_needs_13 : decode cL_needs 13 = .ok (.iconst 2, 1) := by decide +kernel
theorem dL_needs_14 : decode cL_needs 14 = .ok (.ireturn, 1) := by decide +kernel
theorem dL_needs_15 : decode cL_needs 15 = .ok (.iconst 0, 1) := by decide +kernel
theorem dL_needs_16 : decode cL_needs 16 = .ok (.ireturn, 1) := by decide +kernel
theorem dL_field_0 : decode cL_field 0 = .ok (.aload 5, 2) := by decide +kernel
theorem dL_field_2 : decode cL_field 2 = .ok (.iconst 0, 1) := by decide +kernel
theorem dL_field_3 : decode cL_field 3 = .ok (.aload_n 0, 1) := by decide +kernel
theorem dL_field_4 : decode cL_field 4 = .ok (.iload_n 1, 1) := by decide +kernel
theorem dL_field_5 : decode cL_field 5 = .ok (.lload_n 2, 1) := by decide +kernel
theorem dL_field_6 : decode cL_field 6 = .ok (.iload 4, 2) := by decide +kernel
theorem dL_field_8 : decode cL_field 8 = .ok (.invokevirtual 23, 3) := by decide +kernel
theorem dL_field_11 : decode cL_field 11 = .ok (.i2l, 1) := by decide +kernel
theorem dL_field_12 : decode cL_field 12 = .ok (.lastore, 1) := by decide +kernel
theorem dL_field_13 : decode cL_field 13 = .ok (.goto 15, 3) := by decide +kernel
theorem dL_field_16 : decode cL_field 16 = .ok (.astore 6, 2) := by decide +kernel
theorem dL_field_18 : decode cL_field 18 = .ok (.iconst 1, 1) := by decide +kernel
theorem dL_field_19 : decode cL_field 19 = .ok (.ireturn, 1) := by decide +kernel
theorem dL_field_20 : decode cL_field 20 = .ok (.astore 6, 2) := by decide +kernel
theorem dL_field_22 : decode cL_field 22 = .ok (.iconst 2, 1) := by decide +kernel
theorem dL_field_23 : decode cL_field 23 = .ok (.ireturn, 1) := by decide +kernel
theorem dL_field_24 : decode cL_field 24 = .ok (.astore 6, 2) := by decide +kernel
theorem dL_field_26 : decode cL_field 26 = .ok (.iconst 3, 1) := by decide +kernel
theorem dL_field_27 : decode cL_field 27 = .ok (.ireturn, 1) := by decide +kernel
theorem dL_field_28 : decode cL_field 28 = .ok (.iconst 0, 1) := by decide +kernel
theorem dL_field_29 : decode cL_field 29 = .ok (.ireturn, 1) := by decide +kernel
theorem dL_make_0 : decode cL_make 0 = .ok (.aload_n 1, 1) := by decide +kernel
theorem dL_make_1 : decode cL_make 1 = .ok (.iconst 0, 1) := by decide +kernel
theorem dL_make_2 : decode cL_make 2 = .ok (.aload_n 0, 1) := by decide +kernel
theorem dL_make_3 : decode cL_make 3 = .ok (.invokevirtual 29, 3) := by decide +kernel
theorem dL_make_6 : decode cL_make 6 = .ok (.i2l, 1) := by decide +kernel
theorem dL_make_7 : decode cL_make 7 = .ok (.lastore, 1) := by decide +kernel
theorem dL_make_8 : decode cL_make 8 = .ok (.goto 9, 3) := by decide +kernel
theorem dL_make_11 : decode cL_make 11 = .ok (.astore_n 2, 1) := by decide +kernel
theorem dL_make_12 : decode cL_make 12 = .ok (.iconst 1, 1) := by decide +kernel
theorem dL_make_13 : decode cL_make 13 = .ok (.ireturn, 1) := by decide +kernel
theorem dL_make_14 : decode cL_make 14 = .ok (.astore_n 2, 1) := by decide +kernel
theorem dL_make_15 : decode cL_make 15 = .ok (.iconst 2, 1) := by decide +kernel
theorem dL_make_16 : decode cL_make 16 = .ok (.ireturn, 1) := by decide +kernel
theorem dL_make_17 : decode cL_make 17 = .ok (.iconst 0, 1) := by decide +kernel
theorem dL_make_18 : decode cL_make 18 = .ok (.ireturn, 1) := by decide +kernel
theorem dL_module_0 : decode cL_module 0 = .ok (.aload_n 2, 1) := by decide +kernel
theorem dL_module_1 : decode cL_module 1 = .ok (.iconst 0, 1) := by decide +kernel
theorem dL_module_2 : decode cL_module 2 = .ok (.aload_n 0, 1) := by decide +kernel
theorem dL_module_3 : decode cL_module 3 = .ok (.iload_n 1, 1) := by decide +kernel
theorem dL_module_4 : decode cL_module 4 = .ok (.invokevirtual 33, 3) := by decide +kernel
theorem dL_module_7 : decode cL_module 7 = .ok (.i2l, 1) := by decide +kernel
theorem dL_module_8 : decode cL_module 8 = .ok (.lastore, 1) := by decide +kernel
theorem dL_module_9 : decode cL_module 9 = .ok (.goto 6, 3) := by decide +kernel
theorem dL_module_12 : decode cL_module 12 = .ok (.astore_n 3, 1) := by decide +kernel
theorem dL_module_13 : decode cL_module 13 = .ok (.iconst 1, 1) := by decide +kernel
theorem dL_module_14 : decode cL_module 14 = .ok (.ireturn, 1) := by decide +kernel
theorem dL_module_15 : decode cL_module 15 = .ok (.iconst 0, 1) := by decide +kernel
theorem dL_module_16 : decode cL_module 16 = .ok (.ireturn, 1) := by decide +kernel
theorem dL_read_0 : decode cL_read 0 = .ok (.aload_n 2, 1) := by decide +kernel
theorem dL_read_1 : decode cL_read 1 = .ok (.iconst 0, 1) := by decide +kernel
theorem dL_read_2 : decode cL_read 2 = .ok (.aload_n 0, 1) := by decide +kernel
theorem dL_read_3 : decode cL_read 3 = .ok (.iload_n 1, 1) := by decide +kernel
theorem dL_read_4 : decode cL_read 4 = .ok (.invokevirtual 39, 3) := by decide +kernel
theorem dL_read_7 : decode cL_read 7 = .ok (.i2l, 1) := by decide +kernel
theorem dL_read_8 : decode cL_read 8 = .ok (.lastore, 1) := by decide +kernel
theorem dL_read_9 : decode cL_read 9 = .ok (.goto 9, 3) := by decide +kernel
theorem dL_read_12 : decode cL_read 12 = .ok (.astore_n 3, 1) := by decide +kernel
theorem dL_read_13 : decode cL_read 13 = .ok (.iconst 1, 1) := by decide +kernel
theorem dL_read_14 : decode cL_read 14 = .ok (.ireturn, 1) := by decide +kernel
theorem dL_read_15 : decode cL_read 15 = .ok (.astore_n 3, 1) := by decide +kernel
theorem dL_read_16 : decode cL_read 16 = .ok (.iconst 2, 1) := by decide +kernel
theorem dL_read_17 : decode cL_read 17 = .ok (.ireturn, 1) := by decide +kernel
theorem dL_read_18 : decode cL_read 18 = .ok (.iconst 0, 1) := by decide +kernel
theorem dL_read_19 : decode cL_read 19 = .ok (.ireturn, 1) := by decide +kernel
theorem dL_typed_0 : decode cL_typed 0 = .ok (.aload_n 2, 1) := by decide +kernel
theorem dL_typed_1 : decode cL_typed 1 = .ok (.iconst 0, 1) := by decide +kernel
theorem dL_typed_2 : decode cL_typed 2 = .ok (.aload_n 0, 1) := by decide +kernel
theorem dL_typed_3 : decode cL_typed 3 = .ok (.iload_n 1, 1) := by decide +kernel
theorem dL_typed_4 : decode cL_typed 4 = .ok (.invokevirtual 42, 3) := by decide +kernel
theorem dL_typed_7 : decode cL_typed 7 = .ok (.i2l, 1) := by decide +kernel
theorem dL_typed_8 : decode cL_typed 8 = .ok (.lastore, 1) := by decide +kernel
theorem dL_typed_9 : decode cL_typed 9 = .ok (.goto 9, 3) := by decide +kernel
theorem dL_typed_12 : decode cL_typed 12 = .ok (.astore_n 3, 1) := by decide +kernel
theorem dL_typed_13 : decode cL_typed 13 = .ok (.iconst 1, 1) := by decide +kernel
theorem dL_typed_14 : decode cL_typed 14 = .ok (.ireturn, 1) := by decide +kernel
theorem dL_typed_15 : decode cL_typed 15 = .ok (.astore_n 3, 1) := by decide +kernel
theorem dL_typed_16 : decode cL_typed 16 = .ok (.iconst 2, 1) := by decide +kernel
theorem dL_typed_17 : decode cL_typed 17 = .ok (.ireturn, 1) := by decide +kernel
theorem dL_typed_18 : decode cL_typed 18 = .ok (.iconst 0, 1) := by decide +kernel
theorem dL_typed_19 : decode cL_typed 19 = .ok (.ireturn, 1) := by decide +kernel
theorem dL_parse_0 : decode cL_parse 0 = .ok (.aload_n 1, 1) := by decide +kernel
theorem dL_parse_1 : decode cL_parse 1 = .ok (.iconst 0, 1) := by decide +kernel
theorem dL_parse_2 : decode cL_parse 2 = .ok (.aload_n 0, 1) := by decide +kernel
theorem dL_parse_3 : decode cL_parse 3 = .ok (.invokevirtual 45, 3) := by decide +kernel
theorem dL_parse_6 : decode cL_parse 6 = .ok (.i2l, 1) := by decide +kernel
theorem dL_parse_7 : decode cL_parse 7 = .ok (.lastore, 1) := by decide +kernel
theorem dL_parse_8 : decode cL_parse 8 = .ok (.goto 6, 3) := by decide +kernel
theorem dL_parse_11 : decode cL_parse 11 = .ok (.astore_n 2, 1) := by decide +kernel
theorem dL_parse_12 : decode cL_parse 12 = .ok (.iconst 1, 1) := by decide +kernel
theorem dL_parse_13 : decode cL_parse 13 = .ok (.ireturn, 1) := by decide +kernel
theorem dL_parse_14 : decode cL_parse 14 = .ok (.iconst 0, 1) := by decide +kernel
theorem dL_parse_15 : decode cL_parse 15 = .ok (.ireturn, 1) := by decide +kernel
theorem dL_parseTyped_0 : decode cL_parseTyped 0 = .ok (.aload_n 1, 1) := by decide +kernel
theorem dL_parseTyped_1 : decode cL_parseTyped 1 = .ok (.iconst 0, 1) := by decide +kernel
theorem dL_parseTyped_2 : decode cL_parseTyped 2 = .ok (.aload_n 0, 1) := by decide +kernel
theorem dL_parseTyped_3 : decode cL_parseTyped 3 = .ok (.invokevirtual 48, 3) := by decide +kernel
theorem dL_parseTyped_6 : decode cL_parseTyped 6 = .ok (.i2l, 1) := by decide +kernel
theorem dL_parseTyped_7 : decode cL_parseTyped 7 = .ok (.lastore, 1) := by decide +kernel
theorem dL_parseTyped_8 : decode cL_parseTyped 8 = .ok (.goto 6, 3) := by decide +kernel
theorem dL_parseTyped_11 : decode cL_parseTyped 11 = .ok (.astore_n 2, 1) := by decide +kernel
theorem dL_parseTyped_12 : decode cL_parseTyped 12 = .ok (.iconst 1, 1) := by decide +kernel
theorem dL_parseTyped_13 : decode cL_parseTyped 13 = .ok (.ireturn, 1) := by decide +kernel
theorem dL_parseTyped_14 : decode cL_parseTyped 14 = .ok (.iconst 0, 1) := by decide +kernel
theorem dL_parseTyped_15 : decode cL_parseTyped 15 = .ok (.ireturn, 1) := by decide +kernel
theorem dL_check_0 : decode cL_check 0 = .ok (.aload_n 1, 1) := by decide +kernel
theorem dL_check_1 : decode cL_check 1 = .ok (.iconst 0, 1) := by decide +kernel
theorem dL_check_2 : decode cL_check 2 = .ok (.aload_n 0, 1) := by decide +kernel
theorem dL_check_3 : decode cL_check 3 = .ok (.invokevirtual 51, 3) := by decide +kernel
theorem dL_check_6 : decode cL_check 6 = .ok (.i2l, 1) := by decide +kernel
theorem dL_check_7 : decode cL_check 7 = .ok (.lastore, 1) := by decide +kernel
theorem dL_check_8 : decode cL_check 8 = .ok (.goto 6, 3) := by decide +kernel
theorem dL_check_11 : decode cL_check 11 = .ok (.astore_n 2, 1) := by decide +kernel
theorem dL_check_12 : decode cL_check 12 = .ok (.iconst 1, 1) := by decide +kernel
theorem dL_check_13 : decode cL_check 13 = .ok (.ireturn, 1) := by decide +kernel
theorem dL_check_14 : decode cL_check 14 = .ok (.iconst 0, 1) := by decide +kernel
theorem dL_check_15 : decode cL_check 15 = .ok (.ireturn, 1) := by decide +kernel
theorem dL_known_0 : decode cL_known 0 = .ok (.aload_n 3, 1) := by decide +kernel
theorem dL_known_1 : decode cL_known 1 = .ok (.iconst 0, 1) := by decide +kernel
theorem dL_known_2 : decode cL_known 2 = .ok (.aload_n 0, 1) := by decide +kernel
theorem dL_known_3 : decode cL_known 3 = .ok (.iload_n 1, 1) := by decide +kernel
theorem dL_known_4 : decode cL_known 4 = .ok (.iload_n 2, 1) := by decide +kernel
theorem dL_known_5 : decode cL_known 5 = .ok (.invokevirtual 54, 3) := by decide +kernel
theorem dL_known_8 : decode cL_known 8 = .ok (.i2l, 1) := by decide +kernel
theorem dL_known_9 : decode cL_known 9 = .ok (.lastore, 1) := by decide +kernel
theorem dL_known_10 : decode cL_known 10 = .ok (.goto 11, 3) := by decide +kernel
theorem dL_known_13 : decode cL_known 13 = .ok (.astore 4, 2) := by decide +kernel
theorem dL_known_15 : decode cL_known 15 = .ok (.iconst 1, 1) := by decide +kernel
theorem dL_known_16 : decode cL_known 16 = .ok (.ireturn, 1) := by decide +kernel
theorem dL_known_17 : decode cL_known 17 = .ok (.astore 4, 2) := by decide +kernel
theorem dL_known_19 : decode cL_known 19 = .ok (.iconst 2, 1) := by decide +kernel
theorem dL_known_20 : decode cL_known 20 = .ok (.ireturn, 1) := by decide +kernel
theorem dL_known_21 : decode cL_known 21 = .ok (.iconst 0, 1) := by decide +kernel
theorem dL_known_22 : decode cL_known 22 = .ok (.ireturn, 1) := by decide +kernel
theorem dL_value_0 : decode cL_value 0 = .ok (.aload_n 2, 1) := by decide +kernel
theorem dL_value_1 : decode cL_value 1 = .ok (.iconst 0, 1) := by decide +kernel
theorem dL_value_2 : decode cL_value 2 = .ok (.aload_n 0, 1) := by decide +kernel
theorem dL_value_3 : decode cL_value 3 = .ok (.iload_n 1, 1) := by decide +kernel
theorem dL_value_4 : decode cL_value 4 = .ok (.invokevirtual 58, 3) := by decide +kernel
theorem dL_value_7 : decode cL_value 7 = .ok (.lastore, 1) := by decide +kernel
theorem dL_value_8 : decode cL_value 8 = .ok (.goto 6, 3) := by decide +kernel
theorem dL_value_11 : decode cL_value 11 = .ok (.astore_n 3, 1) := by decide +kernel
theorem dL_value_12 : decode cL_value 12 = .ok (.iconst 1, 1) := by decide +kernel
theorem dL_value_13 : decode cL_value 13 = .ok (.ireturn, 1) := by decide +kernel
theorem dL_value_14 : decode cL_value 14 = .ok (.iconst 0, 1) := by decide +kernel
theorem dL_value_15 : decode cL_value 15 = .ok (.ireturn, 1) := by decide +kernel
theorem dL_hint_0 : decode cL_hint 0 = .ok (.aload_n 2, 1) := by decide +kernel
theorem dL_hint_1 : decode cL_hint 1 = .ok (.iconst 0, 1) := by decide +kernel
theorem dL_hint_2 : decode cL_hint 2 = .ok (.aload_n 0, 1) := by decide +kernel
theorem dL_hint_3 : decode cL_hint 3 = .ok (.iload_n 1, 1) := by decide +kernel
theorem dL_hint_4 : decode cL_hint 4 = .ok (.invokevirtual 62, 3) := by decide +kernel
theorem dL_hint_7 : decode cL_hint 7 = .ok (.i2l, 1) := by decide +kernel
theorem dL_hint_8 : decode cL_hint 8 = .ok (.lastore, 1) := by decide +kernel
theorem dL_hint_9 : decode cL_hint 9 = .ok (.goto 6, 3) := by decide +kernel
theorem dL_hint_12 : decode cL_hint 12 = .ok (.astore_n 3, 1) := by decide +kernel
theorem dL_hint_13 : decode cL_hint 13 = .ok (.iconst 1, 1) := by decide +kernel
theorem dL_hint_14 : decode cL_hint 14 = .ok (.ireturn, 1) := by decide +kernel
theorem dL_hint_15 : decode cL_hint 15 = .ok (.iconst 0, 1) := by decide +kernel
theorem dL_hint_16 : decode cL_hint 16 = .ok (.ireturn, 1) := by decide +kernel
theorem dL_scan_0 : decode cL_scan 0 = .ok (.aload_n 3, 1) := by decide +kernel
theorem dL_scan_1 : decode cL_scan 1 = .ok (.iconst 0, 1) := by decide +kernel
theorem dL_scan_2 : decode cL_scan 2 = .ok (.aload_n 0, 1) := by decide +kernel
theorem dL_scan_3 : decode cL_scan 3 = .ok (.iload_n 1, 1) := by decide +kernel
theorem dL_scan_4 : decode cL_scan 4 = .ok (.iload_n 2, 1) := by decide +kernel
theorem dL_scan_5 : decode cL_scan 5 = .ok (.invokevirtual 65, 3) := by decide +kernel
theorem dL_scan_8 : decode cL_scan 8 = .ok (.i2l, 1) := by decide +kernel
theorem dL_scan_9 : decode cL_scan 9 = .ok (.lastore, 1) := by decide +kernel
theorem dL_scan_10 : decode cL_scan 10 = .ok (.goto 15, 3) := by decide +kernel
theorem dL_scan_13 : decode cL_scan 13 = .ok (.astore 4, 2) := by decide +kernel
theorem dL_scan_15 : decode cL_scan 15 = .ok (.iconst 1, 1) := by decide +kernel
theorem dL_scan_16 : decode cL_scan 16 = .ok (.ireturn, 1) := by decide +kernel
theorem dL_scan_17 : decode cL_scan 17 = .ok (.astore 4, 2) := by decide +kernel
theorem dL_scan_19 : decode cL_scan 19 = .ok (.iconst 2, 1) := by decide +kernel
theorem dL_scan_20 : decode cL_scan 20 = .ok (.ireturn, 1) := by decide +kernel
theorem dL_scan_21 : decode cL_scan 21 = .ok (.astore 4, 2) := by decide +kernel
theorem dL_scan_23 : decode cL_scan 23 = .ok (.iconst 3, 1) := by decide +kernel
theorem dL_scan_24 : decode cL_scan 24 = .ok (.ireturn, 1) := by decide +kernel
theorem dL_scan_25 : decode cL_scan 25 = .ok (.iconst 0, 1) := by decide +kernel
theorem dL_scan_26 : decode cL_scan 26 = .ok (.ireturn, 1) := by decide +kernel
