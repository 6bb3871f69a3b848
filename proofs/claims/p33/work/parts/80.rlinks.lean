/-! Arrays.copyOf, Rule, RuleReader.read, rule(): names, links, code -/
abbrev cJ7_copyOf_59c91 : ByteArray := prog_22_method_123_code
def yJ7_copyOf_59c91 : MethodName := ⟨RJ7, "copyOf", "([II)[I"⟩
theorem dJ7_copyOf_59c91_0 : decode cJ7_copyOf_59c91 0 = .ok (.iload_n 1, 1) := by decide +kernel
theorem dJ7_copyOf_59c91_1 : decode cJ7_copyOf_59c91 1 = .ok (.aload_n 0, 1) := by decide +kernel
theorem dJ7_copyOf_59c91_2 : decode cJ7_copyOf_59c91 2 = .ok (.arraylength, 1) := by decide +kernel
theorem dJ7_copyOf_59c91_3 : decode cJ7_copyOf_59c91 3 = .ok (.if_icmp .ne 11, 3) := by decide +kernel
theorem dJ7_copyOf_59c91_6 : decode cJ7_copyOf_59c91 6 = .ok (.aload_n 0, 1) := by decide +kernel
theorem dJ7_copyOf_59c91_7 : decode cJ7_copyOf_59c91 7 = .ok (.invokevirtual 316, 3) := by decide +kernel
theorem dJ7_copyOf_59c91_10 : decode cJ7_copyOf_59c91 10 = .ok (.checkcast 317, 3) := by decide +kernel
theorem dJ7_copyOf_59c91_13 : decode cJ7_copyOf_59c91 13 = .ok (.areturn, 1) := by decide +kernel
theorem dJ7_copyOf_59c91_14 : decode cJ7_copyOf_59c91 14 = .ok (.iload_n 1, 1) := by decide +kernel
theorem dJ7_copyOf_59c91_15 : decode cJ7_copyOf_59c91 15 = .ok (.newarray .int, 2) := by decide +kernel
theorem dJ7_copyOf_59c91_17 : decode cJ7_copyOf_59c91 17 = .ok (.astore_n 2, 1) := by decide +kernel
theorem dJ7_copyOf_59c91_18 : decode cJ7_copyOf_59c91 18 = .ok (.aload_n 0, 1) := by decide +kernel
theorem dJ7_copyOf_59c91_19 : decode cJ7_copyOf_59c91 19 = .ok (.iconst 0, 1) := by decide +kernel
theorem dJ7_copyOf_59c91_20 : decode cJ7_copyOf_59c91 20 = .ok (.aload_n 2, 1) := by decide +kernel
theorem dJ7_copyOf_59c91_21 : decode cJ7_copyOf_59c91 21 = .ok (.iconst 0, 1) := by decide +kernel
theorem dJ7_copyOf_59c91_22 : decode cJ7_copyOf_59c91 22 = .ok (.aload_n 0, 1) := by decide +kernel
theorem dJ7_copyOf_59c91_23 : decode cJ7_copyOf_59c91 23 = .ok (.arraylength, 1) := by decide +kernel
theorem dJ7_copyOf_59c91_24 : decode cJ7_copyOf_59c91 24 = .ok (.iload_n 1, 1) := by decide +kernel
theorem dJ7_copyOf_59c91_25 : decode cJ7_copyOf_59c91 25 = .ok (.invokestatic 304, 3) := by decide +kernel
theorem dJ7_copyOf_59c91_28 : decode cJ7_copyOf_59c91 28 = .ok (.invokestatic 150, 3) := by decide +kernel
theorem dJ7_copyOf_59c91_31 : decode cJ7_copyOf_59c91 31 = .ok (.aload_n 2, 1) := by decide +kernel
theorem dJ7_copyOf_59c91_32 : decode cJ7_copyOf_59c91 32 = .ok (.areturn, 1) := by decide +kernel
theorem dX8_init_0 : decode cX8_init 0 = .ok (.aload_n 0, 1) := by decide +kernel
theorem dX8_init_1 : decode cX8_init 1 = .ok (.invokespecial 1, 3) := by decide +kernel
theorem dX8_init_4 : decode cX8_init 4 = .ok (.aload_n 0, 1) := by decide +kernel
theorem dX8_init_5 : decode cX8_init 5 = .ok (.aload_n 1, 1) := by decide +kernel
theorem dX8_init_6 : decode cX8_init 6 = .ok (.putfield 7, 3) := by decide +kernel
theorem dX8_init_9 : decode cX8_init 9 = .ok (.aload_n 0, 1) := by decide +kernel
theorem dX8_init_10 : decode cX8_init 10 = .ok (.aload_n 2, 1) := by decide +kernel
theorem dX8_init_11 : decode cX8_init 11 = .ok (.putfield 13, 3) := by decide +kernel
theorem dX8_init_14 : decode cX8_init 14 = .ok (.return_, 1) := by decide +kernel
theorem dX9_read_0 : decode cX9_read 0 = .ok (.aload_n 0, 1) := by decide +kernel
theorem dX9_read_1 : decode cX9_read 1 = .ok (.aload_n 1, 1) := by decide +kernel
theorem dX9_read_2 : decode cX9_read 2 = .ok (.putfield 20, 3) := by decide +kernel
theorem dX9_read_5 : decode cX9_read 5 = .ok (.aload_n 0, 1) := by decide +kernel
theorem dX9_read_6 : decode cX9_read 6 = .ok (.iconst 0, 1) := by decide +kernel
theorem dX9_read_7 : decode cX9_read 7 = .ok (.putfield 24, 3) := by decide +kernel
theorem dX9_read_10 : decode cX9_read 10 = .ok (.aload_n 0, 1) := by decide +kernel
theorem dX9_read_11 : decode cX9_read 11 = .ok (.iconst 0, 1) := by decide +kernel
theorem dX9_read_12 : decode cX9_read 12 = .ok (.putfield 28, 3) := by decide +kernel
theorem dX9_read_15 : decode cX9_read 15 = .ok (.aload_n 0, 1) := by decide +kernel
theorem dX9_read_16 : decode cX9_read 16 = .ok (.getfield 20, 3) := by decide +kernel
theorem dX9_read_19 : decode cX9_read 19 = .ok (.invokevirtual 31, 3) := by decide +kernel
theorem dX9_read_22 : decode cX9_read 22 = .ok (.iconst 0, 1) := by decide +kernel
theorem dX9_read_23 : decode cX9_read 23 = .ok (.istore_n 2, 1) := by decide +kernel
theorem dX9_read_24 : decode cX9_read 24 = .ok (.iload_n 2, 1) := by decide +kernel
theorem dX9_read_25 : decode cX9_read 25 = .ok (.bipush 12, 2) := by decide +kernel
theorem dX9_read_27 : decode cX9_read 27 = .ok (.if_icmp .gt 93, 3) := by decide +kernel
theorem dX9_read_30 : decode cX9_read 30 = .ok (.aload_n 0, 1) := by decide +kernel
theorem dX9_read_31 : decode cX9_read 31 = .ok (.iload_n 2, 1) := by decide +kernel
theorem dX9_read_32 : decode cX9_read 32 = .ok (.invokevirtual 34, 3) := by decide +kernel
theorem dX9_read_35 : decode cX9_read 35 = .ok (.ifCond .ne 5, 3) := by decide +kernel
theorem dX9_read_38 : decode cX9_read 38 = .ok (.aconst_null, 1) := by decide +kernel
theorem dX9_read_39 : decode cX9_read 39 = .ok (.areturn, 1) := by decide +kernel
theorem dX9_read_40 : decode cX9_read 40 = .ok (.aload_n 0, 1) := by decide +kernel
theorem dX9_read_41 : decode cX9_read 41 = .ok (.getfield 20, 3) := by decide +kernel
theorem dX9_read_44 : decode cX9_read 44 = .ok (.getfield 38, 3) := by decide +kernel
theorem dX9_read_47 : decode cX9_read 47 = .ok (.sipush 256, 3) := by decide +kernel
theorem dX9_read_50 : decode cX9_read 50 = .ok (.if_icmp .ne 34, 3) := by decide +kernel
theorem dX9_read_53 : decode cX9_read 53 = .ok (.new 41, 3) := by decide +kernel
theorem dX9_read_56 : decode cX9_read 56 = .ok (.dup, 1) := by decide +kernel
theorem dX9_read_57 : decode cX9_read 57 = .ok (.aload_n 0, 1) := by decide +kernel
theorem dX9_read_58 : decode cX9_read 58 = .ok (.getfield 11, 3) := by decide +kernel
theorem dX9_read_61 : decode cX9_read 61 = .ok (.aload_n 0, 1) := by decide +kernel
theorem dX9_read_62 : decode cX9_read 62 = .ok (.getfield 24, 3) := by decide +kernel
theorem dX9_read_65 : decode cX9_read 65 = .ok (.invokestatic 43, 3) := by decide +kernel
theorem dX9_read_68 : decode cX9_read 68 = .ok (.aload_n 0, 1) := by decide +kernel
theorem dX9_read_69 : decode cX9_read 69 = .ok (.getfield 17, 3) := by decide +kernel
theorem dX9_read_72 : decode cX9_read 72 = .ok (.iconst 2, 1) := by decide +kernel
theorem dX9_read_73 : decode cX9_read 73 = .ok (.iload_n 2, 1) := by decide +kernel
theorem dX9_read_74 : decode cX9_read 74 = .ok (.imul, 1) := by decide +kernel
theorem dX9_read_75 : decode cX9_read 75 = .ok (.iconst 2, 1) := by decide +kernel
theorem dX9_read_76 : decode cX9_read 76 = .ok (.iadd, 1) := by decide +kernel
theorem dX9_read_77 : decode cX9_read 77 = .ok (.invokestatic 43, 3) := by decide +kernel
theorem dX9_read_80 : decode cX9_read 80 = .ok (.invokespecial 49, 3) := by decide +kernel
theorem dX9_read_83 : decode cX9_read 83 = .ok (.areturn, 1) := by decide +kernel
theorem dX9_read_84 : decode cX9_read 84 = .ok (.aload_n 0, 1) := by decide +kernel
theorem dX9_read_85 : decode cX9_read 85 = .ok (.getfield 20, 3) := by decide +kernel
theorem dX9_read_88 : decode cX9_read 88 = .ok (.getfield 38, 3) := by decide +kernel
theorem dX9_read_91 : decode cX9_read 91 = .ok (.bipush 59, 2) := by decide +kernel
theorem dX9_read_93 : decode cX9_read 93 = .ok (.if_icmp .eq 14, 3) := by decide +kernel
theorem dX9_read_96 : decode cX9_read 96 = .ok (.aload_n 0, 1) := by decide +kernel
theorem dX9_read_97 : decode cX9_read 97 = .ok (.getfield 20, 3) := by decide +kernel
theorem dX9_read_100 : decode cX9_read 100 = .ok (.iconst 0, 1) := by decide +kernel
theorem dX9_read_101 : decode cX9_read 101 = .ok (.invokevirtual 52, 3) := by decide +kernel
theorem dX9_read_104 : decode cX9_read 104 = .ok (.pop, 1) := by decide +kernel
theorem dX9_read_105 : decode cX9_read 105 = .ok (.aconst_null, 1) := by decide +kernel
theorem dX9_read_106 : decode cX9_read 106 = .ok (.areturn, 1) := by decide +kernel
theorem dX9_read_107 : decode cX9_read 107 = .ok (.aload_n 0, 1) := by decide +kernel
theorem dX9_read_108 : decode cX9_read 108 = .ok (.getfield 20, 3) := by decide +kernel
theorem dX9_read_111 : decode cX9_read 111 = .ok (.invokevirtual 55, 3) := by decide +kernel
theorem dX9_read_114 : decode cX9_read 114 = .ok (.iinc 2 1, 3) := by decide +kernel
theorem dX9_read_117 : decode cX9_read 117 = .ok (.goto (-93), 3) := by decide +kernel
theorem dX9_read_120 : decode cX9_read 120 = .ok (.aconst_null, 1) := by decide +kernel
theorem dX9_read_121 : decode cX9_read 121 = .ok (.areturn, 1) := by decide +kernel
theorem dX11_rule_0 : decode cX11_rule 0 = .ok (.aload_n 0, 1) := by decide +kernel
theorem dX11_rule_1 : decode cX11_rule 1 = .ok (.getfield 131, 3) := by decide +kernel
theorem dX11_rule_4 : decode cX11_rule 4 = .ok (.bipush 6, 2) := by decide +kernel
theorem dX11_rule_6 : decode cX11_rule 6 = .ok (.if_icmp .lt 5, 3) := by decide +kernel
theorem dX11_rule_9 : decode cX11_rule 9 = .ok (.iconst (-1), 1) := by decide +kernel
theorem dX11_rule_10 : decode cX11_rule 10 = .ok (.ireturn, 1) := by decide +kernel
theorem dX11_rule_11 : decode cX11_rule 11 = .ok (.aload_n 0, 1) := by decide +kernel
theorem dX11_rule_12 : decode cX11_rule 12 = .ok (.getfield 26, 3) := by decide +kernel
theorem dX11_rule_15 : decode cX11_rule 15 = .ok (.aload_n 0, 1) := by decide +kernel
theorem dX11_rule_16 : decode cX11_rule 16 = .ok (.getfield 10, 3) := by decide +kernel
theorem dX11_rule_19 : decode cX11_rule 19 = .ok (.invokevirtual 134, 3) := by decide +kernel
theorem dX11_rule_22 : decode cX11_rule 22 = .ok (.astore_n 1, 1) := by decide +kernel
theorem dX11_rule_23 : decode cX11_rule 23 = .ok (.aload_n 0, 1) := by decide +kernel
theorem dX11_rule_24 : decode cX11_rule 24 = .ok (.getfield 10, 3) := by decide +kernel
theorem dX11_rule_27 : decode cX11_rule 27 = .ok (.iconst 0, 1) := by decide +kernel
theorem dX11_rule_28 : decode cX11_rule 28 = .ok (.putfield 101, 3) := by decide +kernel
theorem dX11_rule_31 : decode cX11_rule 31 = .ok (.aload_n 1, 1) := by decide +kernel
theorem dX11_rule_32 : decode cX11_rule 32 = .ok (.ifnonnull 14, 3) := by decide +kernel
theorem dX11_rule_35 : decode cX11_rule 35 = .ok (.bipush (-2), 2) := by decide +kernel
theorem dX11_rule_37 : decode cX11_rule 37 = .ok (.aload_n 0, 1) := by decide +kernel
theorem dX11_rule_38 : decode cX11_rule 38 = .ok (.getfield 10, 3) := by decide +kernel
theorem dX11_rule_41 : decode cX11_rule 41 = .ok (.getfield 109, 3) := by decide +kernel
theorem dX11_rule_44 : decode cX11_rule 44 = .ok (.isub, 1) := by decide +kernel
theorem dX11_rule_45 : decode cX11_rule 45 = .ok (.ireturn, 1) := by decide +kernel
theorem dX11_rule_46 : decode cX11_rule 46 = .ok (.aload_n 0, 1) := by decide +kernel
theorem dX11_rule_47 : decode cX11_rule 47 = .ok (.getfield 32, 3) := by decide +kernel
theorem dX11_rule_50 : decode cX11_rule 50 = .ok (.aload_n 0, 1) := by decide +kernel
theorem dX11_rule_51 : decode cX11_rule 51 = .ok (.getfield 131, 3) := by decide +kernel
theorem dX11_rule_54 : decode cX11_rule 54 = .ok (.aload_n 1, 1) := by decide +kernel
theorem dX11_rule_55 : decode cX11_rule 55 = .ok (.aastore, 1) := by decide +kernel
theorem dX11_rule_56 : decode cX11_rule 56 = .ok (.aload_n 0, 1) := by decide +kernel
theorem dX11_rule_57 : decode cX11_rule 57 = .ok (.dup, 1) := by decide +kernel
theorem dX11_rule_58 : decode cX11_rule 58 = .ok (.getfield 131, 3) := by decide +kernel
theorem dX11_rule_61 : decode cX11_rule 61 = .ok (.iconst 1, 1) := by decide +kernel
theorem dX11_rule_62 : decode cX11_rule 62 = .ok (.iadd, 1) := by decide +kernel
theorem dX11_rule_63 : decode cX11_rule 63 = .ok (.putfield 131, 3) := by decide +kernel
theorem dX11_rule_66 : decode cX11_rule 66 = .ok (.aload_n 0, 1) := by decide +kernel
theorem dX11_rule_67 : decode cX11_rule 67 = .ok (.getfield 131, 3) := by decide +kernel
theorem dX11_rule_70 : decode cX11_rule 70 = .ok (.iconst 1, 1) := by decide +kernel
theorem dX11_rule_71 : decode cX11_rule 71 = .ok (.isub, 1) := by decide +kernel
theorem dX11_rule_72 : decode cX11_rule 72 = .ok (.ireturn, 1) := by decide +kernel
theorem rk_cl : Cond.methodLink RJ7 316 ⟨"[I", "clone", "()Ljava/lang/Object;"⟩ ∈ lwG := lw_k 692 (by decide +kernel) (by decide +kernel)
theorem rk_sm : Cond.sameMethod "[I" "java/lang/Object" "clone" "()Ljava/lang/Object;" ∈ lwG := lw_k 693 (by decide +kernel) (by decide +kernel)
theorem rk_on : Cond.native ⟨"java/lang/Object", "clone", "()Ljava/lang/Object;"⟩ ∈ lwG := lw_k 694 (by decide +kernel) (by decide +kernel)
theorem rk_oi : Cond.instanceMethod ⟨"java/lang/Object", "clone", "()Ljava/lang/Object;"⟩ ∈ lwG := lw_k 695 (by decide +kernel) (by decide +kernel)
theorem rk_os : Cond.selects "[I" ⟨"[I", "clone", "()Ljava/lang/Object;"⟩ ⟨"java/lang/Object", "clone", "()Ljava/lang/Object;"⟩ ∈ lwG := lw_k 696 (by decide +kernel) (by decide +kernel)
theorem rk_cc : Cond.classLink RJ7 317 "[I" ∈ lwG := lw_k 698 (by decide +kernel) (by decide +kernel)
theorem rk_mn : Cond.methodLink RJ7 304 Lib.Math.min.name ∈ lwG := lw_k 699 (by decide +kernel) (by decide +kernel)
theorem rk_ac : Cond.methodLink RJ7 150 arraycopyName ∈ lwG := lw_k 702 (by decide +kernel) (by decide +kernel)
theorem rk_an : Cond.native arraycopyName ∈ lwG := lw_k 704 (by decide +kernel) (by decide +kernel)
theorem rk_as : Cond.static arraycopyName ∈ lwG := lw_k 703 (by decide +kernel) (by decide +kernel)
theorem rk_ai : Cond.initialized RJ10 ∈ lwG := lw_k 129 (by decide +kernel) (by decide +kernel)
theorem rk_ms : Cond.static Lib.Math.min.name ∈ lwG := lw_k 700 (by decide +kernel) (by decide +kernel)
theorem rk_mi : Cond.initialized RJ9 ∈ lwG := lw_k 128 (by decide +kernel) (by decide +kernel)
theorem rk_mc : Cond.code Lib.Math.min.name Lib.Math.min.code 2 (some .int) ∈ lwG := lw_k 701 (by decide +kernel) (by decide +kernel)
theorem rk_ar : Cond.arrayClass .int ∈ lwG := lw_k 198 (by decide +kernel) (by decide +kernel)
theorem rk_nc : Cond.classLink RX9 41 RX8 ∈ lwG := lw_k 687 (by decide +kernel) (by decide +kernel)
theorem rk_ni : Cond.instantiable RX8 2 ∈ lwG := lw_k 688 (by decide +kernel) (by decide +kernel)
theorem rk_n8 : Cond.initialized RX8 ∈ lwG := lw_k 126 (by decide +kernel) (by decide +kernel)
theorem rk_cpl : Cond.methodLink RX9 43 yJ7_copyOf_59c91 ∈ lwG := lw_k 689 (by decide +kernel) (by decide +kernel)
theorem rk_cps : Cond.static yJ7_copyOf_59c91 ∈ lwG := lw_k 690 (by decide +kernel) (by decide +kernel)
theorem rk_cpi : Cond.initialized RJ7 ∈ lwG := lw_k 127 (by decide +kernel) (by decide +kernel)
theorem rk_cpc : Cond.code yJ7_copyOf_59c91 cJ7_copyOf_59c91 3 (some (.array .int)) ∈ lwG := lw_k 691 (by decide +kernel) (by decide +kernel)
theorem rk_rl : Cond.methodLink RX11 134 yX9_read ∈ lwG := lw_k 632 (by decide +kernel) (by decide +kernel)
theorem rk_i8 : Cond.methodLink RX9 49 yX8_init ∈ lwG := lw_k 705 (by decide +kernel) (by decide +kernel)
theorem rk_o8 : Cond.methodLink RX8 1 objectInit ∈ lwG := lw_k 708 (by decide +kernel) (by decide +kernel)
theorem rk_oi2 : Cond.instanceMethod objectInit ∈ lwG := lw_k 137 (by decide +kernel) (by decide +kernel)
theorem rk_oc : Cond.code objectInit ⟨#[0xb1]⟩ 1 none ∈ lwG := lw_k 138 (by decide +kernel) (by decide +kernel)
theorem rk_f8a : Cond.fieldLink RX8 7 "LinenName$Rule" "code" "[I" ∈ lwG := lw_k 709 (by decide +kernel) (by decide +kernel)
theorem rk_f8b : Cond.fieldLink RX8 13 "LinenName$Rule" "ends" "[I" ∈ lwG := lw_k 710 (by decide +kernel) (by decide +kernel)
theorem rk_g9c : Cond.fieldLink RX9 11 "LinenName$RuleReader" "code" "[I" ∈ lwG := lw_k 182 (by decide +kernel) (by decide +kernel)
theorem rk_g9s : Cond.fieldLink RX9 24 "LinenName$RuleReader" "size" "I" ∈ lwG := lw_k 185 (by decide +kernel) (by decide +kernel)
theorem rk_g9e : Cond.fieldLink RX9 17 "LinenName$RuleReader" "ends" "[I" ∈ lwG := lw_k 183 (by decide +kernel) (by decide +kernel)
theorem rk_x8i : Cond.instanceMethod yX8_init ∈ lwG := lw_k 706 (by decide +kernel) (by decide +kernel)
theorem rk_x8c : Cond.code yX8_init cX8_init 3 (none) ∈ lwG := lw_k 707 (by decide +kernel) (by decide +kernel)
theorem rk_x9i : Cond.instanceMethod yX9_read ∈ lwG := lw_k 633 (by decide +kernel) (by decide +kernel)
theorem rk_x9c : Cond.code yX9_read cX9_read 3 (some (.object "LinenName$Rule")) ∈ lwG := lw_k 635 (by decide +kernel) (by decide +kernel)
theorem rk_x9s : Cond.selects RX9 yX9_read yX9_read ∈ lwG := lw_k 634 (by decide +kernel) (by decide +kernel)
theorem rk_x9n : Cond.initialized RX9 ∈ lwG := lw_k 113 (by decide +kernel) (by decide +kernel)
