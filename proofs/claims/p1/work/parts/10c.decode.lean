theorem dJ0_coder_7d493_0 : decode cJ0_coder_7d493 0 = .ok (.getstatic 38, 3) := by decide +kernel
theorem dJ0_coder_7d493_3 : decode cJ0_coder_7d493 3 = .ok (.ifCond .eq 10, 3) := by decide +kernel
theorem dJ0_coder_7d493_6 : decode cJ0_coder_7d493 6 = .ok (.aload_n 0, 1) := by decide +kernel
theorem dJ0_coder_7d493_7 : decode cJ0_coder_7d493 7 = .ok (.getfield 15, 3) := by decide +kernel
theorem dJ0_coder_7d493_10 : decode cJ0_coder_7d493 10 = .ok (.goto 4, 3) := by decide +kernel
theorem dJ0_coder_7d493_14 : decode cJ0_coder_7d493 14 = .ok (.ireturn, 1) := by decide +kernel
theorem dJ0_length_8abf5_0 : decode cJ0_length_8abf5 0 = .ok (.aload_n 0, 1) := by decide +kernel
theorem dJ0_length_8abf5_1 : decode cJ0_length_8abf5 1 = .ok (.getfield 9, 3) := by decide +kernel
theorem dJ0_length_8abf5_4 : decode cJ0_length_8abf5 4 = .ok (.arraylength, 1) := by decide +kernel
theorem dJ0_length_8abf5_5 : decode cJ0_length_8abf5 5 = .ok (.aload_n 0, 1) := by decide +kernel
theorem dJ0_length_8abf5_6 : decode cJ0_length_8abf5 6 = .ok (.invokevirtual 335, 3) := by decide +kernel
theorem dJ0_length_8abf5_9 : decode cJ0_length_8abf5 9 = .ok (.ishr, 1) := by decide +kernel
theorem dJ0_length_8abf5_10 : decode cJ0_length_8abf5 10 = .ok (.ireturn, 1) := by decide +kernel
theorem dX10_behind_0 : decode cX10_behind 0 = .ok (.iload_n 1, 1) := by decide +kernel
theorem dX10_behind_1 : decode cX10_behind 1 = .ok (.istore 4, 2) := by decide +kernel
theorem dX10_behind_3 : decode cX10_behind 3 = .ok (.iconst 1, 1) := by decide +kernel
theorem dX10_behind_4 : decode cX10_behind 4 = .ok (.istore 5, 2) := by decide +kernel
theorem dX10_behind_6 : decode cX10_behind 6 = .ok (.iload_n 1, 1) := by decide +kernel
theorem dX10_behind_7 : decode cX10_behind 7 = .ok (.istore 6, 2) := by decide +kernel
theorem dX10_behind_9 : decode cX10_behind 9 = .ok (.iload 5, 2) := by decide +kernel
theorem dX10_behind_11 : decode cX10_behind 11 = .ok (.ifCond .eq 66, 3) := by decide +kernel
theorem dX10_behind_14 : decode cX10_behind 14 = .ok (.iload 6, 2) := by decide +kernel
theorem dX10_behind_16 : decode cX10_behind 16 = .ok (.aload_n 0, 1) := by decide +kernel
theorem dX10_behind_17 : decode cX10_behind 17 = .ok (.getfield 15, 3) := by decide +kernel
theorem dX10_behind_20 : decode cX10_behind 20 = .ok (.if_icmp .ge 57, 3) := by decide +kernel
theorem dX10_behind_77 : decode cX10_behind 77 = .ok (.iload 4, 2) := by decide +kernel
theorem dX10_behind_79 : decode cX10_behind 79 = .ok (.ireturn, 1) := by decide +kernel
theorem dX10_byteAt_0 : decode cX10_byteAt 0 = .ok (.iload_n 1, 1) := by decide +kernel
theorem dX10_byteAt_1 : decode cX10_byteAt 1 = .ok (.ifCond .lt 24, 3) := by decide +kernel
theorem dX10_byteAt_4 : decode cX10_byteAt 4 = .ok (.iload_n 1, 1) := by decide +kernel
theorem dX10_byteAt_5 : decode cX10_byteAt 5 = .ok (.aload_n 0, 1) := by decide +kernel
theorem dX10_byteAt_6 : decode cX10_byteAt 6 = .ok (.getfield 15, 3) := by decide +kernel
theorem dX10_byteAt_9 : decode cX10_byteAt 9 = .ok (.if_icmp .ge 16, 3) := by decide +kernel
theorem dX10_byteAt_25 : decode cX10_byteAt 25 = .ok (.sipush 256, 3) := by decide +kernel
theorem dX10_byteAt_28 : decode cX10_byteAt 28 = .ok (.ireturn, 1) := by decide +kernel
theorem dX10_fail_0 : decode cX10_fail 0 = .ok (.aload_n 0, 1) := by decide +kernel
theorem dX10_fail_1 : decode cX10_fail 1 = .ok (.iconst 1, 1) := by decide +kernel
theorem dX10_fail_2 : decode cX10_fail 2 = .ok (.bipush 8, 2) := by decide +kernel
theorem dX10_fail_4 : decode cX10_fail 4 = .ok (.aload_n 0, 1) := by decide +kernel
theorem dX10_fail_5 : decode cX10_fail 5 = .ok (.getfield 32, 3) := by decide +kernel
theorem dX10_fail_8 : decode cX10_fail 8 = .ok (.imul, 1) := by decide +kernel
theorem dX10_fail_9 : decode cX10_fail 9 = .ok (.iadd, 1) := by decide +kernel
theorem dX10_fail_10 : decode cX10_fail 10 = .ok (.iload_n 1, 1) := by decide +kernel
theorem dX10_fail_11 : decode cX10_fail 11 = .ok (.iadd, 1) := by decide +kernel
theorem dX10_fail_12 : decode cX10_fail 12 = .ok (.putfield 19, 3) := by decide +kernel
theorem dX10_fail_15 : decode cX10_fail 15 = .ok (.iconst 0, 1) := by decide +kernel
theorem dX10_fail_16 : decode cX10_fail 16 = .ok (.ireturn, 1) := by decide +kernel
theorem dX10_isWord_0 : decode cX10_isWord 0 = .ok (.aload_n 0, 1) := by decide +kernel
theorem dX10_isWord_1 : decode cX10_isWord 1 = .ok (.aload_n 1, 1) := by decide +kernel
theorem dX10_isWord_2 : decode cX10_isWord 2 = .ok (.iconst 0, 1) := by decide +kernel
theorem dX10_isWord_3 : decode cX10_isWord 3 = .ok (.aload_n 1, 1) := by decide +kernel
theorem dX10_isWord_4 : decode cX10_isWord 4 = .ok (.invokevirtual 42, 3) := by decide +kernel
theorem dX10_isWord_7 : decode cX10_isWord 7 = .ok (.invokevirtual 48, 3) := by decide +kernel
theorem dX10_isWord_10 : decode cX10_isWord 10 = .ok (.ireturn, 1) := by decide +kernel
theorem dX10_isWordIn_0 : decode cX10_isWordIn 0 = .ok (.aload_n 0, 1) := by decide +kernel
theorem dX10_isWordIn_1 : decode cX10_isWordIn 1 = .ok (.getfield 22, 3) := by decide +kernel
theorem dX10_isWordIn_4 : decode cX10_isWordIn 4 = .ok (.aload_n 0, 1) := by decide +kernel
theorem dX10_isWordIn_5 : decode cX10_isWordIn 5 = .ok (.getfield 32, 3) := by decide +kernel
theorem dX10_isWordIn_8 : decode cX10_isWordIn 8 = .ok (.isub, 1) := by decide +kernel
theorem dX10_isWordIn_9 : decode cX10_isWordIn 9 = .ok (.istore 4, 2) := by decide +kernel
theorem dX10_isWordIn_11 : decode cX10_isWordIn 11 = .ok (.aload_n 0, 1) := by decide +kernel
theorem dX10_isWordIn_12 : decode cX10_isWordIn 12 = .ok (.getfield 39, 3) := by decide +kernel
theorem dX10_isWordIn_15 : decode cX10_isWordIn 15 = .ok (.sipush 258, 3) := by decide +kernel
theorem dX10_isWordIn_18 : decode cX10_isWordIn 18 = .ok (.if_icmp .ne 23, 3) := by decide +kernel
theorem dX10_isWordIn_41 : decode cX10_isWordIn 41 = .ok (.iconst 0, 1) := by decide +kernel
theorem dX10_isWordIn_42 : decode cX10_isWordIn 42 = .ok (.istore 5, 2) := by decide +kernel
theorem dX10_isWordIn_44 : decode cX10_isWordIn 44 = .ok (.iconst 0, 1) := by decide +kernel
theorem dX10_isWordIn_45 : decode cX10_isWordIn 45 = .ok (.istore 6, 2) := by decide +kernel
theorem dX10_isWordIn_47 : decode cX10_isWordIn 47 = .ok (.iload 5, 2) := by decide +kernel
theorem dX10_isWordIn_49 : decode cX10_isWordIn 49 = .ok (.ifCond .eq 56, 3) := by decide +kernel
theorem dX10_isWordIn_105 : decode cX10_isWordIn 105 = .ok (.iload 5, 2) := by decide +kernel
theorem dX10_isWordIn_107 : decode cX10_isWordIn 107 = .ok (.ireturn, 1) := by decide +kernel
theorem dX10_rewind_0 : decode cX10_rewind 0 = .ok (.aload_n 0, 1) := by decide +kernel
theorem dX10_rewind_1 : decode cX10_rewind 1 = .ok (.iconst 0, 1) := by decide +kernel
theorem dX10_rewind_2 : decode cX10_rewind 2 = .ok (.putfield 19, 3) := by decide +kernel
theorem dX10_rewind_5 : decode cX10_rewind 5 = .ok (.aload_n 0, 1) := by decide +kernel
theorem dX10_rewind_6 : decode cX10_rewind 6 = .ok (.iconst 0, 1) := by decide +kernel
theorem dX10_rewind_7 : decode cX10_rewind 7 = .ok (.putfield 22, 3) := by decide +kernel
theorem dX10_rewind_10 : decode cX10_rewind 10 = .ok (.aload_n 0, 1) := by decide +kernel
theorem dX10_rewind_11 : decode cX10_rewind 11 = .ok (.invokevirtual 25, 3) := by decide +kernel
theorem dX10_rewind_14 : decode cX10_rewind 14 = .ok (.return_, 1) := by decide +kernel
theorem dX10_step_0 : decode cX10_step 0 = .ok (.aload_n 0, 1) := by decide +kernel
theorem dX10_step_1 : decode cX10_step 1 = .ok (.aload_n 0, 1) := by decide +kernel
theorem dX10_step_2 : decode cX10_step 2 = .ok (.aload_n 0, 1) := by decide +kernel
theorem dX10_step_3 : decode cX10_step 3 = .ok (.getfield 22, 3) := by decide +kernel
theorem dX10_step_6 : decode cX10_step 6 = .ok (.bipush 32, 2) := by decide +kernel
theorem dX10_step_8 : decode cX10_step 8 = .ok (.bipush 32, 2) := by decide +kernel
theorem dX10_step_10 : decode cX10_step 10 = .ok (.invokevirtual 28, 3) := by decide +kernel
theorem dX10_step_13 : decode cX10_step 13 = .ok (.putfield 32, 3) := by decide +kernel
theorem dX10_step_16 : decode cX10_step 16 = .ok (.aload_n 0, 1) := by decide +kernel
theorem dX10_step_17 : decode cX10_step 17 = .ok (.aload_n 0, 1) := by decide +kernel
theorem dX10_step_18 : decode cX10_step 18 = .ok (.aload_n 0, 1) := by decide +kernel
theorem dX10_step_19 : decode cX10_step 19 = .ok (.getfield 32, 3) := by decide +kernel
theorem dX10_step_22 : decode cX10_step 22 = .ok (.invokevirtual 35, 3) := by decide +kernel
theorem dX10_step_25 : decode cX10_step 25 = .ok (.putfield 39, 3) := by decide +kernel
theorem dX10_step_28 : decode cX10_step 28 = .ok (.aload_n 0, 1) := by decide +kernel
theorem dX10_step_29 : decode cX10_step 29 = .ok (.aload_n 0, 1) := by decide +kernel
theorem dX10_step_30 : decode cX10_step 30 = .ok (.getfield 32, 3) := by decide +kernel
theorem dX10_step_33 : decode cX10_step 33 = .ok (.iconst 1, 1) := by decide +kernel
theorem dX10_step_34 : decode cX10_step 34 = .ok (.iadd, 1) := by decide +kernel
theorem dX10_step_35 : decode cX10_step 35 = .ok (.putfield 22, 3) := by decide +kernel
theorem dX10_step_38 : decode cX10_step 38 = .ok (.aload_n 0, 1) := by decide +kernel
theorem dX10_step_39 : decode cX10_step 39 = .ok (.getfield 39, 3) := by decide +kernel
theorem dX10_step_42 : decode cX10_step 42 = .ok (.sipush 256, 3) := by decide +kernel
theorem dX10_step_45 : decode cX10_step 45 = .ok (.if_icmp .ne 14, 3) := by decide +kernel
theorem dX10_step_48 : decode cX10_step 48 = .ok (.aload_n 0, 1) := by decide +kernel
theorem dX10_step_49 : decode cX10_step 49 = .ok (.aload_n 0, 1) := by decide +kernel
theorem dX10_step_50 : decode cX10_step 50 = .ok (.getfield 32, 3) := by decide +kernel
theorem dX10_step_53 : decode cX10_step 53 = .ok (.putfield 22, 3) := by decide +kernel
theorem dX10_step_56 : decode cX10_step 56 = .ok (.goto 154, 3) := by decide +kernel
theorem dX10_step_210 : decode cX10_step 210 = .ok (.return_, 1) := by decide +kernel
theorem dX11_house_0 : decode cX11_house 0 = .ok (.aload_n 0, 1) := by decide +kernel
theorem dX11_house_1 : decode cX11_house 1 = .ok (.getfield 19, 3) := by decide +kernel
theorem dX11_house_4 : decode cX11_house 4 = .ok (.aload_n 0, 1) := by decide +kernel
theorem dX11_house_5 : decode cX11_house 5 = .ok (.getfield 10, 3) := by decide +kernel
theorem dX11_house_8 : decode cX11_house 8 = .ok (.aload_n 0, 1) := by decide +kernel
theorem dX11_house_9 : decode cX11_house 9 = .ok (.getfield 89, 3) := by decide +kernel
theorem dX11_house_12 : decode cX11_house 12 = .ok (.invokevirtual 105, 3) := by decide +kernel
theorem dX11_house_15 : decode cX11_house 15 = .ok (.ifCond .ne 14, 3) := by decide +kernel
theorem dX11_house_18 : decode cX11_house 18 = .ok (.bipush (-2), 2) := by decide +kernel
theorem dX11_house_20 : decode cX11_house 20 = .ok (.aload_n 0, 1) := by decide +kernel
theorem dX11_house_21 : decode cX11_house 21 = .ok (.getfield 10, 3) := by decide +kernel
theorem dX11_house_24 : decode cX11_house 24 = .ok (.getfield 109, 3) := by decide +kernel
theorem dX11_house_27 : decode cX11_house 27 = .ok (.isub, 1) := by decide +kernel
theorem dX11_house_28 : decode cX11_house 28 = .ok (.ireturn, 1) := by decide +kernel
theorem dX11_rule_0 : decode cX11_rule 0 = .ok (.aload_n 0, 1) := by decide +kernel
theorem dX11_rule_1 : decode cX11_rule 1 = .ok (.getfield 131, 3) := by decide +kernel
theorem dX11_rule_4 : decode cX11_rule 4 = .ok (.bipush 6, 2) := by decide +kernel
theorem dX11_rule_6 : decode cX11_rule 6 = .ok (.if_icmp .lt 5, 3) := by decide +kernel
theorem dX11_rule_11 : decode cX11_rule 11 = .ok (.aload_n 0, 1) := by decide +kernel
theorem dX11_rule_12 : decode cX11_rule 12 = .ok (.getfield 26, 3) := by decide +kernel
theorem dX11_rule_15 : decode cX11_rule 15 = .ok (.aload_n 0, 1) := by decide +kernel
theorem dX11_rule_16 : decode cX11_rule 16 = .ok (.getfield 10, 3) := by decide +kernel
theorem dX11_rule_19 : decode cX11_rule 19 = .ok (.invokevirtual 134, 3) := by decide +kernel
theorem dX11_rule_22 : decode cX11_rule 22 = .ok (.astore_n 1, 1) := by decide +kernel
theorem dX11_rule_23 : decode cX11_rule 23 = .ok (.aload_n 0, 1) := by decide +kernel
theorem dX11_rule_24 : decode cX11_rule 24 = .ok (.getfield 10, 3) := by decide +kernel
theorem dX11_rule_27 : decode cX11_rule 27 = .ok (.iconst 0, 1) := by decide +kernel
theorem dX11_rule_28 : decode cX11_rule 28 = .ok (.putfield 101, 3) := by decide +kernel
theorem dX11_rule_31 : decode cX11_rule 31 = .ok (.aload_n 1, 1) := by decide +kernel
theorem dX11_rule_32 : decode cX11_rule 32 = .ok (.ifnonnull 14, 3) := by decide +kernel
theorem dX11_rule_35 : decode cX11_rule 35 = .ok (.bipush (-2), 2) := by decide +kernel
theorem dX11_rule_37 : decode cX11_rule 37 = .ok (.aload_n 0, 1) := by decide +kernel
theorem dX11_rule_38 : decode cX11_rule 38 = .ok (.getfield 10, 3) := by decide +kernel
theorem dX11_rule_41 : decode cX11_rule 41 = .ok (.getfield 109, 3) := by decide +kernel
theorem dX11_rule_44 : decode cX11_rule 44 = .ok (.isub, 1) := by decide +kernel
theorem dX11_rule_45 : decode cX11_rule 45 = .ok (.ireturn, 1) := by decide +kernel
theorem dX1_clear_0 : decode cX1_clear 0 = .ok (.aload_n 0, 1) := by decide +kernel
theorem dX1_clear_1 : decode cX1_clear 1 = .ok (.iconst 0, 1) := by decide +kernel
theorem dX1_clear_2 : decode cX1_clear 2 = .ok (.putfield 27, 3) := by decide +kernel
theorem dX1_clear_5 : decode cX1_clear 5 = .ok (.aload_n 0, 1) := by decide +kernel
theorem dX1_clear_6 : decode cX1_clear 6 = .ok (.iconst 0, 1) := by decide +kernel
theorem dX1_clear_7 : decode cX1_clear 7 = .ok (.putfield 31, 3) := by decide +kernel
theorem dX1_clear_10 : decode cX1_clear 10 = .ok (.aload_n 0, 1) := by decide +kernel
theorem dX1_clear_11 : decode cX1_clear 11 = .ok (.iconst 0, 1) := by decide +kernel
theorem dX1_clear_12 : decode cX1_clear 12 = .ok (.putfield 35, 3) := by decide +kernel
theorem dX1_clear_15 : decode cX1_clear 15 = .ok (.aload_n 0, 1) := by decide +kernel
theorem dX1_clear_16 : decode cX1_clear 16 = .ok (.iconst 0, 1) := by decide +kernel
theorem dX1_clear_17 : decode cX1_clear 17 = .ok (.putfield 38, 3) := by decide +kernel
theorem dX1_clear_20 : decode cX1_clear 20 = .ok (.aload_n 0, 1) := by decide +kernel
theorem dX1_clear_21 : decode cX1_clear 21 = .ok (.iconst 0, 1) := by decide +kernel
theorem dX1_clear_22 : decode cX1_clear 22 = .ok (.putfield 41, 3) := by decide +kernel
theorem dX1_clear_25 : decode cX1_clear 25 = .ok (.return_, 1) := by decide +kernel
theorem dX2_reads_0 : decode cX2_reads 0 = .ok (.aload_n 2, 1) := by decide +kernel
theorem dX2_reads_1 : decode cX2_reads 1 = .ok (.invokevirtual 9, 3) := by decide +kernel
theorem dX2_reads_4 : decode cX2_reads 4 = .ok (.aload_n 1, 1) := by decide +kernel
theorem dX2_reads_5 : decode cX2_reads 5 = .ok (.invokevirtual 14, 3) := by decide +kernel
theorem dX2_reads_8 : decode cX2_reads 8 = .ok (.iconst 0, 1) := by decide +kernel
theorem dX2_reads_9 : decode cX2_reads 9 = .ok (.istore_n 3, 1) := by decide +kernel
theorem dX2_reads_10 : decode cX2_reads 10 = .ok (.iload_n 3, 1) := by decide +kernel
theorem dX2_reads_11 : decode cX2_reads 11 = .ok (.bipush 40, 2) := by decide +kernel
theorem dX2_reads_13 : decode cX2_reads 13 = .ok (.if_icmp .gt 56, 3) := by decide +kernel
theorem dX2_reads_16 : decode cX2_reads 16 = .ok (.aload_n 1, 1) := by decide +kernel
theorem dX2_reads_17 : decode cX2_reads 17 = .ok (.aload_n 2, 1) := by decide +kernel
theorem dX2_reads_18 : decode cX2_reads 18 = .ok (.iload_n 3, 1) := by decide +kernel
theorem dX2_reads_19 : decode cX2_reads 19 = .ok (.invokestatic 21, 3) := by decide +kernel
theorem dX2_reads_22 : decode cX2_reads 22 = .ok (.ifCond .ne 5, 3) := by decide +kernel
theorem dX2_reads_25 : decode cX2_reads 25 = .ok (.iconst 0, 1) := by decide +kernel
theorem dX2_reads_26 : decode cX2_reads 26 = .ok (.ireturn, 1) := by decide +kernel
theorem dX2_readsClause_0 : decode cX2_readsClause 0 = .ok (.aload_n 0, 1) := by decide +kernel
theorem dX2_readsClause_1 : decode cX2_readsClause 1 = .ok (.ldc 40, 2) := by decide +kernel
theorem dX2_readsClause_3 : decode cX2_readsClause 3 = .ok (.invokevirtual 42, 3) := by decide +kernel
theorem dX2_readsClause_6 : decode cX2_readsClause 6 = .ok (.istore_n 3, 1) := by decide +kernel
theorem dX2_readsClause_7 : decode cX2_readsClause 7 = .ok (.aload_n 0, 1) := by decide +kernel
theorem dX2_readsClause_8 : decode cX2_readsClause 8 = .ok (.ldc 46, 2) := by decide +kernel
theorem dX2_readsClause_10 : decode cX2_readsClause 10 = .ok (.invokevirtual 42, 3) := by decide +kernel
theorem dX2_readsClause_13 : decode cX2_readsClause 13 = .ok (.istore 4, 2) := by decide +kernel
theorem dX2_readsClause_15 : decode cX2_readsClause 15 = .ok (.aload_n 0, 1) := by decide +kernel
theorem dX2_readsClause_16 : decode cX2_readsClause 16 = .ok (.ldc 48, 2) := by decide +kernel
theorem dX2_readsClause_18 : decode cX2_readsClause 18 = .ok (.invokevirtual 42, 3) := by decide +kernel
theorem dX2_readsClause_21 : decode cX2_readsClause 21 = .ok (.istore 5, 2) := by decide +kernel
theorem dX2_readsClause_23 : decode cX2_readsClause 23 = .ok (.iload_n 3, 1) := by decide +kernel
theorem dX2_readsClause_24 : decode cX2_readsClause 24 = .ok (.ifCond .ne 19, 3) := by decide +kernel
theorem dX2_readsClause_27 : decode cX2_readsClause 27 = .ok (.iload 4, 2) := by decide +kernel
theorem dX2_readsClause_29 : decode cX2_readsClause 29 = .ok (.ifCond .ne 14, 3) := by decide +kernel
theorem dX2_readsClause_32 : decode cX2_readsClause 32 = .ok (.iload 5, 2) := by decide +kernel
theorem dX2_readsClause_34 : decode cX2_readsClause 34 = .ok (.ifCond .ne 9, 3) := by decide +kernel
theorem dX2_readsClause_37 : decode cX2_readsClause 37 = .ok (.aload_n 0, 1) := by decide +kernel
theorem dX2_readsClause_38 : decode cX2_readsClause 38 = .ok (.iconst 0, 1) := by decide +kernel
theorem dX2_readsClause_39 : decode cX2_readsClause 39 = .ok (.invokevirtual 33, 3) := by decide +kernel
theorem dX2_readsClause_42 : decode cX2_readsClause 42 = .ok (.ireturn, 1) := by decide +kernel
theorem dX9_read_0 : decode cX9_read 0 = .ok (.aload_n 0, 1) := by decide +kernel
theorem dX9_read_1 : decode cX9_read 1 = .ok (.aload_n 1, 1) := by decide +kernel
theorem dX9_read_2 : decode cX9_read 2 = .ok (.putfield 20, 3) := by decide +kernel
theorem dX9_read_5 : decode cX9_read 5 = .ok (.aload_n 0, 1) := by decide +kernel
theorem dX9_read_6 : decode cX9_read 6 = .ok (.iconst 0, 1) := by decide +kernel
theorem dX9_read_7 : decode cX9_read 7 = .ok (.putfield 24, 3) := by decide +kernel
theorem dX9_read_10 : decode cX9_read 10 = .ok (.aload_n 0, 1) := by decide +kernel
theorem dX9_read_11 : decode cX9_read 11 = .ok (.iconst 0, 1) := by decide +kernel
theorem dX9_read_12 : decode cX9_read 12 = .ok (.putfield 28, 3) := by decide +kernel
theorem dX9_read_15 : decode cX9_read 15 = .ok (.aload_n 0, 1) := by decide +kernel
theorem dX9_read_16 : decode cX9_read 16 = .ok (.getfield 20, 3) := by decide +kernel
theorem dX9_read_19 : decode cX9_read 19 = .ok (.invokevirtual 31, 3) := by decide +kernel
theorem dX9_read_22 : decode cX9_read 22 = .ok (.iconst 0, 1) := by decide +kernel
theorem dX9_read_23 : decode cX9_read 23 = .ok (.istore_n 2, 1) := by decide +kernel
theorem dX9_read_24 : decode cX9_read 24 = .ok (.iload_n 2, 1) := by decide +kernel
theorem dX9_read_25 : decode cX9_read 25 = .ok (.bipush 12, 2) := by decide +kernel
theorem dX9_read_27 : decode cX9_read 27 = .ok (.if_icmp .gt 93, 3) := by decide +kernel
theorem dX9_read_30 : decode cX9_read 30 = .ok (.aload_n 0, 1) := by decide +kernel
theorem dX9_read_31 : decode cX9_read 31 = .ok (.iload_n 2, 1) := by decide +kernel
theorem dX9_read_32 : decode cX9_read 32 = .ok (.invokevirtual 34, 3) := by decide +kernel
theorem dX9_read_35 : decode cX9_read 35 = .ok (.ifCond .ne 5, 3) := by decide +kernel
theorem dX9_read_38 : decode cX9_read 38 = .ok (.aconst_null, 1) := by decide +kernel
theorem dX9_read_39 : decode cX9_read 39 = .ok (.areturn, 1) := by decide +kernel
theorem dX9_readsClause_0 : decode cX9_readsClause 0 = .ok (.aload_n 0, 1) := by decide +kernel
theorem dX9_readsClause_1 : decode cX9_readsClause 1 = .ok (.getfield 20, 3) := by decide +kernel
theorem dX9_readsClause_4 : decode cX9_readsClause 4 = .ok (.ldc 58, 2) := by decide +kernel
theorem dX9_readsClause_6 : decode cX9_readsClause 6 = .ok (.invokevirtual 60, 3) := by decide +kernel
theorem dX9_readsClause_9 : decode cX9_readsClause 9 = .ok (.ifCond .ne 12, 3) := by decide +kernel
theorem dX9_readsClause_12 : decode cX9_readsClause 12 = .ok (.aload_n 0, 1) := by decide +kernel
theorem dX9_readsClause_13 : decode cX9_readsClause 13 = .ok (.getfield 20, 3) := by decide +kernel
theorem dX9_readsClause_16 : decode cX9_readsClause 16 = .ok (.iconst 0, 1) := by decide +kernel
theorem dX9_readsClause_17 : decode cX9_readsClause 17 = .ok (.invokevirtual 52, 3) := by decide +kernel
theorem dX9_readsClause_20 : decode cX9_readsClause 20 = .ok (.ireturn, 1) := by decide +kernel
