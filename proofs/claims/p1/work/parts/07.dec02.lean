set_option maxRecDepth 100000 in
theorem dX4_init_53 : decode cX4_init 53 = .ok (.putfield 28, 3) := by decide +kernel
set_option maxRecDepth 100000 in
theorem dX4_init_56 : decode cX4_init 56 = .ok (.aload_n 0, 1) := by decide +kernel
set_option maxRecDepth 100000 in
theorem dX4_init_57 : decode cX4_init 57 = .ok (.bipush 8, 2) := by decide +kernel
set_option maxRecDepth 100000 in
theorem dX4_init_59 : decode cX4_init 59 = .ok (.newarray .int, 2) := by decide +kernel
set_option maxRecDepth 100000 in
theorem dX4_init_61 : decode cX4_init 61 = .ok (.putfield 31, 3) := by decide +kernel
set_option maxRecDepth 100000 in
theorem dX4_init_64 : decode cX4_init 64 = .ok (.aload_n 0, 1) := by decide +kernel
set_option maxRecDepth 100000 in
theorem dX4_init_65 : decode cX4_init 65 = .ok (.sipush 250, 3) := by decide +kernel
set_option maxRecDepth 100000 in
theorem dX4_init_68 : decode cX4_init 68 = .ok (.newarray .int, 2) := by decide +kernel
set_option maxRecDepth 100000 in
theorem dX4_init_70 : decode cX4_init 70 = .ok (.putfield 34, 3) := by decide +kernel
set_option maxRecDepth 100000 in
theorem dX4_init_73 : decode cX4_init 73 = .ok (.aload_n 0, 1) := by decide +kernel
set_option maxRecDepth 100000 in
theorem dX4_init_74 : decode cX4_init 74 = .ok (.sipush 250, 3) := by decide +kernel
set_option maxRecDepth 100000 in
theorem dX4_init_77 : decode cX4_init 77 = .ok (.newarray .int, 2) := by decide +kernel
set_option maxRecDepth 100000 in
theorem dX4_init_79 : decode cX4_init 79 = .ok (.putfield 37, 3) := by decide +kernel
set_option maxRecDepth 100000 in
theorem dX4_init_82 : decode cX4_init 82 = .ok (.aload_n 0, 1) := by decide +kernel
set_option maxRecDepth 100000 in
theorem dX4_init_83 : decode cX4_init 83 = .ok (.ldc 40, 2) := by decide +kernel
set_option maxRecDepth 100000 in
theorem dX4_init_85 : decode cX4_init 85 = .ok (.newarray .boolean, 2) := by decide +kernel
set_option maxRecDepth 100000 in
theorem dX4_init_87 : decode cX4_init 87 = .ok (.putfield 41, 3) := by decide +kernel
set_option maxRecDepth 100000 in
theorem dX4_init_90 : decode cX4_init 90 = .ok (.aload_n 0, 1) := by decide +kernel
set_option maxRecDepth 100000 in
theorem dX4_init_91 : decode cX4_init 91 = .ok (.bipush 84, 2) := by decide +kernel
set_option maxRecDepth 100000 in
theorem dX4_init_93 : decode cX4_init 93 = .ok (.newarray .int, 2) := by decide +kernel
set_option maxRecDepth 100000 in
theorem dX4_init_95 : decode cX4_init 95 = .ok (.putfield 45, 3) := by decide +kernel
set_option maxRecDepth 100000 in
theorem dX4_init_98 : decode cX4_init 98 = .ok (.aload_n 0, 1) := by decide +kernel
set_option maxRecDepth 100000 in
theorem dX4_init_99 : decode cX4_init 99 = .ok (.iconst 4, 1) := by decide +kernel
set_option maxRecDepth 100000 in
theorem dX4_init_100 : decode cX4_init 100 = .ok (.newarray .int, 2) := by decide +kernel
set_option maxRecDepth 100000 in
theorem dX4_init_102 : decode cX4_init 102 = .ok (.putfield 48, 3) := by decide +kernel
set_option maxRecDepth 100000 in
theorem dX4_init_105 : decode cX4_init 105 = .ok (.return_, 1) := by decide +kernel
set_option maxRecDepth 100000 in
theorem dX4_thrown_0 : decode cX4_thrown 0 = .ok (.aload_n 0, 1) := by decide +kernel
set_option maxRecDepth 100000 in
theorem dX4_thrown_1 : decode cX4_thrown 1 = .ok (.getfield 51, 3) := by decide +kernel
set_option maxRecDepth 100000 in
theorem dX4_thrown_4 : decode cX4_thrown 4 = .ok (.ireturn, 1) := by decide +kernel
set_option maxRecDepth 100000 in
theorem dX4_fail_0 : decode cX4_fail 0 = .ok (.aload_n 0, 1) := by decide +kernel
set_option maxRecDepth 100000 in
theorem dX4_fail_1 : decode cX4_fail 1 = .ok (.iload_n 1, 1) := by decide +kernel
set_option maxRecDepth 100000 in
theorem dX4_fail_2 : decode cX4_fail 2 = .ok (.putfield 51, 3) := by decide +kernel
set_option maxRecDepth 100000 in
theorem dX4_fail_5 : decode cX4_fail 5 = .ok (.iconst 0, 1) := by decide +kernel
set_option maxRecDepth 100000 in
theorem dX4_fail_6 : decode cX4_fail 6 = .ok (.ireturn, 1) := by decide +kernel
set_option maxRecDepth 100000 in
theorem dX4_isVariable_0 : decode cX4_isVariable 0 = .ok (.iload_n 1, 1) := by decide +kernel
set_option maxRecDepth 100000 in
theorem dX4_isVariable_1 : decode cX4_isVariable 1 = .ok (.ifCond .lt 15, 3) := by decide +kernel
set_option maxRecDepth 100000 in
theorem dX4_isVariable_4 : decode cX4_isVariable 4 = .ok (.iload_n 1, 1) := by decide +kernel
set_option maxRecDepth 100000 in
theorem dX4_isVariable_5 : decode cX4_isVariable 5 = .ok (.aload_n 0, 1) := by decide +kernel
set_option maxRecDepth 100000 in
theorem dX4_isVariable_6 : decode cX4_isVariable 6 = .ok (.getfield 55, 3) := by decide +kernel
set_option maxRecDepth 100000 in
theorem dX4_isVariable_9 : decode cX4_isVariable 9 = .ok (.if_icmp .ge 7, 3) := by decide +kernel
set_option maxRecDepth 100000 in
theorem dX4_isVariable_16 : decode cX4_isVariable 16 = .ok (.iconst 0, 1) := by decide +kernel
set_option maxRecDepth 100000 in
theorem dX4_isVariable_17 : decode cX4_isVariable 17 = .ok (.ireturn, 1) := by decide +kernel
set_option maxRecDepth 100000 in
theorem dX4_addVariable_0 : decode cX4_addVariable 0 = .ok (.aload_n 0, 1) := by decide +kernel
set_option maxRecDepth 100000 in
theorem dX4_addVariable_1 : decode cX4_addVariable 1 = .ok (.iconst 0, 1) := by decide +kernel
set_option maxRecDepth 100000 in
theorem dX4_addVariable_2 : decode cX4_addVariable 2 = .ok (.putfield 51, 3) := by decide +kernel
set_option maxRecDepth 100000 in
theorem dX4_addVariable_5 : decode cX4_addVariable 5 = .ok (.iload_n 1, 1) := by decide +kernel
set_option maxRecDepth 100000 in
theorem dX4_addVariable_6 : decode cX4_addVariable 6 = .ok (.iconst 2, 1) := by decide +kernel
set_option maxRecDepth 100000 in
theorem dX4_addVariable_7 : decode cX4_addVariable 7 = .ok (.if_icmp .lt 17, 3) := by decide +kernel
set_option maxRecDepth 100000 in
theorem dX4_addVariable_10 : decode cX4_addVariable 10 = .ok (.iload_n 1, 1) := by decide +kernel
set_option maxRecDepth 100000 in
theorem dX4_addVariable_11 : decode cX4_addVariable 11 = .ok (.iconst 4, 1) := by decide +kernel
set_option maxRecDepth 100000 in
theorem dX4_addVariable_12 : decode cX4_addVariable 12 = .ok (.if_icmp .gt 12, 3) := by decide +kernel
set_option maxRecDepth 100000 in
theorem dX4_addVariable_15 : decode cX4_addVariable 15 = .ok (.iload_n 2, 1) := by decide +kernel
set_option maxRecDepth 100000 in
theorem dX4_addVariable_16 : decode cX4_addVariable 16 = .ok (.ifCond .lt 8, 3) := by decide +kernel
set_option maxRecDepth 100000 in
theorem dX4_addVariable_19 : decode cX4_addVariable 19 = .ok (.iload_n 2, 1) := by decide +kernel
set_option maxRecDepth 100000 in
theorem dX4_addVariable_20 : decode cX4_addVariable 20 = .ok (.iload_n 1, 1) := by decide +kernel
set_option maxRecDepth 100000 in
theorem dX4_addVariable_21 : decode cX4_addVariable 21 = .ok (.if_icmp .lt 9, 3) := by decide +kernel
set_option maxRecDepth 100000 in
theorem dX4_addVariable_24 : decode cX4_addVariable 24 = .ok (.aload_n 0, 1) := by decide +kernel
set_option maxRecDepth 100000 in
theorem dX4_addVariable_25 : decode cX4_addVariable 25 = .ok (.iconst 1, 1) := by decide +kernel
set_option maxRecDepth 100000 in
theorem dX4_addVariable_26 : decode cX4_addVariable 26 = .ok (.invokevirtual 58, 3) := by decide +kernel
set_option maxRecDepth 100000 in
theorem dX4_addVariable_29 : decode cX4_addVariable 29 = .ok (.ireturn, 1) := by decide +kernel
set_option maxRecDepth 100000 in
theorem dX4_addVariable_30 : decode cX4_addVariable 30 = .ok (.aload_n 0, 1) := by decide +kernel
set_option maxRecDepth 100000 in
theorem dX4_addVariable_31 : decode cX4_addVariable 31 = .ok (.getfield 55, 3) := by decide +kernel
set_option maxRecDepth 100000 in
theorem dX4_addVariable_34 : decode cX4_addVariable 34 = .ok (.iconst 4, 1) := by decide +kernel
set_option maxRecDepth 100000 in
theorem dX4_addVariable_35 : decode cX4_addVariable 35 = .ok (.if_icmp .ne 9, 3) := by decide +kernel
set_option maxRecDepth 100000 in
theorem dX4_addVariable_44 : decode cX4_addVariable 44 = .ok (.aload_n 0, 1) := by decide +kernel
set_option maxRecDepth 100000 in
theorem dX4_addVariable_45 : decode cX4_addVariable 45 = .ok (.getfield 9, 3) := by decide +kernel
set_option maxRecDepth 100000 in
theorem dX4_addVariable_48 : decode cX4_addVariable 48 = .ok (.aload_n 0, 1) := by decide +kernel
set_option maxRecDepth 100000 in
theorem dX4_addVariable_49 : decode cX4_addVariable 49 = .ok (.getfield 55, 3) := by decide +kernel
set_option maxRecDepth 100000 in
theorem dX4_addVariable_52 : decode cX4_addVariable 52 = .ok (.iload_n 1, 1) := by decide +kernel
set_option maxRecDepth 100000 in
theorem dX4_addVariable_53 : decode cX4_addVariable 53 = .ok (.iastore, 1) := by decide +kernel
set_option maxRecDepth 100000 in
theorem dX4_addVariable_54 : decode cX4_addVariable 54 = .ok (.aload_n 0, 1) := by decide +kernel
set_option maxRecDepth 100000 in
theorem dX4_addVariable_55 : decode cX4_addVariable 55 = .ok (.getfield 13, 3) := by decide +kernel
set_option maxRecDepth 100000 in
theorem dX4_addVariable_58 : decode cX4_addVariable 58 = .ok (.aload_n 0, 1) := by decide +kernel
set_option maxRecDepth 100000 in
theorem dX4_addVariable_59 : decode cX4_addVariable 59 = .ok (.getfield 55, 3) := by decide +kernel
set_option maxRecDepth 100000 in
theorem dX4_addVariable_62 : decode cX4_addVariable 62 = .ok (.iload_n 2, 1) := by decide +kernel
set_option maxRecDepth 100000 in
theorem dX4_addVariable_63 : decode cX4_addVariable 63 = .ok (.iastore, 1) := by decide +kernel
set_option maxRecDepth 100000 in
theorem dX4_addVariable_64 : decode cX4_addVariable 64 = .ok (.aload_n 0, 1) := by decide +kernel
set_option maxRecDepth 100000 in
theorem dX4_addVariable_65 : decode cX4_addVariable 65 = .ok (.getfield 16, 3) := by decide +kernel
set_option maxRecDepth 100000 in
theorem dX4_addVariable_68 : decode cX4_addVariable 68 = .ok (.aload_n 0, 1) := by decide +kernel
set_option maxRecDepth 100000 in
theorem dX4_addVariable_69 : decode cX4_addVariable 69 = .ok (.getfield 55, 3) := by decide +kernel
set_option maxRecDepth 100000 in
theorem dX4_addVariable_72 : decode cX4_addVariable 72 = .ok (.iconst (-1), 1) := by decide +kernel
set_option maxRecDepth 100000 in
theorem dX4_addVariable_73 : decode cX4_addVariable 73 = .ok (.iastore, 1) := by decide +kernel
set_option maxRecDepth 100000 in
theorem dX4_addVariable_74 : decode cX4_addVariable 74 = .ok (.aload_n 0, 1) := by decide +kernel
set_option maxRecDepth 100000 in
theorem dX4_addVariable_75 : decode cX4_addVariable 75 = .ok (.getfield 19, 3) := by decide +kernel
set_option maxRecDepth 100000 in
theorem dX4_addVariable_78 : decode cX4_addVariable 78 = .ok (.aload_n 0, 1) := by decide +kernel
set_option maxRecDepth 100000 in
theorem dX4_addVariable_79 : decode cX4_addVariable 79 = .ok (.getfield 55, 3) := by decide +kernel
set_option maxRecDepth 100000 in
theorem dX4_addVariable_82 : decode cX4_addVariable 82 = .ok (.iconst 2, 1) := by decide +kernel
set_option maxRecDepth 100000 in
theorem dX4_addVariable_83 : decode cX4_addVariable 83 = .ok (.iastore, 1) := by decide +kernel
set_option maxRecDepth 100000 in
theorem dX4_addVariable_84 : decode cX4_addVariable 84 = .ok (.aload_n 0, 1) := by decide +kernel
set_option maxRecDepth 100000 in
theorem dX4_addVariable_85 : decode cX4_addVariable 85 = .ok (.dup, 1) := by decide +kernel
set_option maxRecDepth 100000 in
theorem dX4_addVariable_86 : decode cX4_addVariable 86 = .ok (.getfield 55, 3) := by decide +kernel
set_option maxRecDepth 100000 in
theorem dX4_addVariable_89 : decode cX4_addVariable 89 = .ok (.iconst 1, 1) := by decide +kernel
set_option maxRecDepth 100000 in
theorem dX4_addVariable_90 : decode cX4_addVariable 90 = .ok (.iadd, 1) := by decide +kernel
set_option maxRecDepth 100000 in
theorem dX4_addVariable_91 : decode cX4_addVariable 91 = .ok (.putfield 55, 3) := by decide +kernel
set_option maxRecDepth 100000 in
theorem dX4_addVariable_94 : decode cX4_addVariable 94 = .ok (.aload_n 0, 1) := by decide +kernel
set_option maxRecDepth 100000 in
theorem dX4_addVariable_95 : decode cX4_addVariable 95 = .ok (.iconst 0, 1) := by decide +kernel
set_option maxRecDepth 100000 in
theorem dX4_addVariable_96 : decode cX4_addVariable 96 = .ok (.putfield 62, 3) := by decide +kernel
set_option maxRecDepth 100000 in
theorem dX4_addVariable_99 : decode cX4_addVariable 99 = .ok (.aload_n 0, 1) := by decide +kernel
set_option maxRecDepth 100000 in
theorem dX4_addVariable_100 : decode cX4_addVariable 100 = .ok (.getfield 55, 3) := by decide +kernel
set_option maxRecDepth 100000 in
theorem dX4_addVariable_103 : decode cX4_addVariable 103 = .ok (.iconst 1, 1) := by decide +kernel
set_option maxRecDepth 100000 in
theorem dX4_addVariable_104 : decode cX4_addVariable 104 = .ok (.isub, 1) := by decide +kernel
set_option maxRecDepth 100000 in
theorem dX4_addVariable_105 : decode cX4_addVariable 105 = .ok (.ireturn, 1) := by decide +kernel
set_option maxRecDepth 100000 in
theorem dX4_addConstraint_0 : decode cX4_addConstraint 0 = .ok (.aload_n 0, 1) := by decide +kernel
set_option maxRecDepth 100000 in
theorem dX4_addConstraint_1 : decode cX4_addConstraint 1 = .ok (.iconst 0, 1) := by decide +kernel
set_option maxRecDepth 100000 in
theorem dX4_addConstraint_2 : decode cX4_addConstraint 2 = .ok (.putfield 51, 3) := by decide +kernel
set_option maxRecDepth 100000 in
theorem dX4_addConstraint_5 : decode cX4_addConstraint 5 = .ok (.iload_n 1, 1) := by decide +kernel
set_option maxRecDepth 100000 in
theorem dX4_addConstraint_6 : decode cX4_addConstraint 6 = .ok (.ifCond .lt 8, 3) := by decide +kernel
set_option maxRecDepth 100000 in
theorem dX4_addConstraint_9 : decode cX4_addConstraint 9 = .ok (.iload_n 1, 1) := by decide +kernel
set_option maxRecDepth 100000 in
theorem dX4_addConstraint_10 : decode cX4_addConstraint 10 = .ok (.iconst 5, 1) := by decide +kernel
set_option maxRecDepth 100000 in
theorem dX4_addConstraint_11 : decode cX4_addConstraint 11 = .ok (.if_icmp .le 9, 3) := by decide +kernel
set_option maxRecDepth 100000 in
theorem dX4_addConstraint_14 : decode cX4_addConstraint 14 = .ok (.aload_n 0, 1) := by decide +kernel
set_option maxRecDepth 100000 in
theorem dX4_addConstraint_15 : decode cX4_addConstraint 15 = .ok (.iconst 1, 1) := by decide +kernel
set_option maxRecDepth 100000 in
theorem dX4_addConstraint_16 : decode cX4_addConstraint 16 = .ok (.invokevirtual 58, 3) := by decide +kernel
set_option maxRecDepth 100000 in
theorem dX4_addConstraint_19 : decode cX4_addConstraint 19 = .ok (.ireturn, 1) := by decide +kernel
set_option maxRecDepth 100000 in
theorem dX4_addConstraint_20 : decode cX4_addConstraint 20 = .ok (.aload_n 0, 1) := by decide +kernel
set_option maxRecDepth 100000 in
theorem dX4_addConstraint_21 : decode cX4_addConstraint 21 = .ok (.iload_n 2, 1) := by decide +kernel
set_option maxRecDepth 100000 in
theorem dX4_addConstraint_22 : decode cX4_addConstraint 22 = .ok (.invokevirtual 66, 3) := by decide +kernel
set_option maxRecDepth 100000 in
theorem dX4_addConstraint_25 : decode cX4_addConstraint 25 = .ok (.ifCond .eq 30, 3) := by decide +kernel
set_option maxRecDepth 100000 in
theorem dX4_addConstraint_55 : decode cX4_addConstraint 55 = .ok (.aload_n 0, 1) := by decide +kernel
set_option maxRecDepth 100000 in
theorem dX4_addConstraint_56 : decode cX4_addConstraint 56 = .ok (.iconst 2, 1) := by decide +kernel
set_option maxRecDepth 100000 in
theorem dX4_addConstraint_57 : decode cX4_addConstraint 57 = .ok (.invokevirtual 58, 3) := by decide +kernel
set_option maxRecDepth 100000 in
theorem dX4_addConstraint_60 : decode cX4_addConstraint 60 = .ok (.ireturn, 1) := by decide +kernel
set_option maxRecDepth 100000 in
theorem dX4_dropConstraint_0 : decode cX4_dropConstraint 0 = .ok (.aload_n 0, 1) := by decide +kernel
set_option maxRecDepth 100000 in
theorem dX4_dropConstraint_1 : decode cX4_dropConstraint 1 = .ok (.iconst 0, 1) := by decide +kernel
set_option maxRecDepth 100000 in
theorem dX4_dropConstraint_2 : decode cX4_dropConstraint 2 = .ok (.putfield 51, 3) := by decide +kernel
set_option maxRecDepth 100000 in
theorem dX4_dropConstraint_5 : decode cX4_dropConstraint 5 = .ok (.aload_n 0, 1) := by decide +kernel
set_option maxRecDepth 100000 in
theorem dX4_dropConstraint_6 : decode cX4_dropConstraint 6 = .ok (.getfield 70, 3) := by decide +kernel
set_option maxRecDepth 100000 in
theorem dX4_dropConstraint_9 : decode cX4_dropConstraint 9 = .ok (.ifCond .ne 9, 3) := by decide +kernel
set_option maxRecDepth 100000 in
theorem dX4_dropConstraint_12 : decode cX4_dropConstraint 12 = .ok (.aload_n 0, 1) := by decide +kernel
set_option maxRecDepth 100000 in
theorem dX4_dropConstraint_13 : decode cX4_dropConstraint 13 = .ok (.iconst 1, 1) := by decide +kernel
set_option maxRecDepth 100000 in
theorem dX4_dropConstraint_14 : decode cX4_dropConstraint 14 = .ok (.invokevirtual 58, 3) := by decide +kernel
set_option maxRecDepth 100000 in
theorem dX4_dropConstraint_17 : decode cX4_dropConstraint 17 = .ok (.ireturn, 1) := by decide +kernel
set_option maxRecDepth 100000 in
theorem dX4_give_0 : decode cX4_give 0 = .ok (.aload_n 0, 1) := by decide +kernel
set_option maxRecDepth 100000 in
theorem dX4_give_1 : decode cX4_give 1 = .ok (.aload_n 0, 1) := by decide +kernel
set_option maxRecDepth 100000 in
theorem dX4_give_2 : decode cX4_give 2 = .ok (.iload_n 1, 1) := by decide +kernel
set_option maxRecDepth 100000 in
theorem dX4_give_3 : decode cX4_give 3 = .ok (.invokevirtual 66, 3) := by decide +kernel
set_option maxRecDepth 100000 in
theorem dX4_give_6 : decode cX4_give 6 = .ok (.ifCond .ne 7, 3) := by decide +kernel
set_option maxRecDepth 100000 in
theorem dX4_give_9 : decode cX4_give 9 = .ok (.iconst 1, 1) := by decide +kernel
set_option maxRecDepth 100000 in
theorem dX4_give_10 : decode cX4_give 10 = .ok (.goto 32, 3) := by decide +kernel
set_option maxRecDepth 100000 in
theorem dX4_give_42 : decode cX4_give 42 = .ok (.putfield 51, 3) := by decide +kernel
set_option maxRecDepth 100000 in
theorem dX4_give_45 : decode cX4_give 45 = .ok (.aload_n 0, 1) := by decide +kernel
set_option maxRecDepth 100000 in
theorem dX4_give_46 : decode cX4_give 46 = .ok (.getfield 51, 3) := by decide +kernel
set_option maxRecDepth 100000 in
theorem dX4_give_49 : decode cX4_give 49 = .ok (.ifCond .eq 5, 3) := by decide +kernel
set_option maxRecDepth 100000 in
theorem dX4_give_52 : decode cX4_give 52 = .ok (.iconst 0, 1) := by decide +kernel
set_option maxRecDepth 100000 in
theorem dX4_give_53 : decode cX4_give 53 = .ok (.ireturn, 1) := by decide +kernel
set_option maxRecDepth 100000 in
theorem dX4_open_0 : decode cX4_open 0 = .ok (.aload_n 0, 1) := by decide +kernel
set_option maxRecDepth 100000 in
theorem dX4_open_1 : decode cX4_open 1 = .ok (.iconst 0, 1) := by decide +kernel
set_option maxRecDepth 100000 in
theorem dX4_open_2 : decode cX4_open 2 = .ok (.putfield 51, 3) := by decide +kernel
set_option maxRecDepth 100000 in
theorem dX4_open_5 : decode cX4_open 5 = .ok (.iconst 0, 1) := by decide +kernel
set_option maxRecDepth 100000 in
theorem dX4_open_6 : decode cX4_open 6 = .ok (.istore_n 1, 1) := by decide +kernel
set_option maxRecDepth 100000 in
theorem dX4_open_7 : decode cX4_open 7 = .ok (.iconst 0, 1) := by decide +kernel
set_option maxRecDepth 100000 in
theorem dX4_open_8 : decode cX4_open 8 = .ok (.istore_n 2, 1) := by decide +kernel
set_option maxRecDepth 100000 in
theorem dX4_open_9 : decode cX4_open 9 = .ok (.iload_n 2, 1) := by decide +kernel
set_option maxRecDepth 100000 in
theorem dX4_open_10 : decode cX4_open 10 = .ok (.aload_n 0, 1) := by decide +kernel
set_option maxRecDepth 100000 in
theorem dX4_open_11 : decode cX4_open 11 = .ok (.getfield 55, 3) := by decide +kernel
set_option maxRecDepth 100000 in
theorem dX4_open_14 : decode cX4_open 14 = .ok (.if_icmp .ge 51, 3) := by decide +kernel
set_option maxRecDepth 100000 in
theorem dX4_open_65 : decode cX4_open 65 = .ok (.aload_n 0, 1) := by decide +kernel
set_option maxRecDepth 100000 in
theorem dX4_open_66 : decode cX4_open 66 = .ok (.iconst 0, 1) := by decide +kernel
set_option maxRecDepth 100000 in
theorem dX4_open_67 : decode cX4_open 67 = .ok (.putfield 62, 3) := by decide +kernel
set_option maxRecDepth 100000 in
theorem dX4_open_70 : decode cX4_open 70 = .ok (.iload_n 1, 1) := by decide +kernel
set_option maxRecDepth 100000 in
theorem dX4_open_71 : decode cX4_open 71 = .ok (.ireturn, 1) := by decide +kernel
set_option maxRecDepth 100000 in
theorem dX4_variableCount_0 : decode cX4_variableCount 0 = .ok (.aload_n 0, 1) := by decide +kernel
set_option maxRecDepth 100000 in
theorem dX4_variableCount_1 : decode cX4_variableCount 1 = .ok (.iconst 0, 1) := by decide +kernel
set_option maxRecDepth 100000 in
theorem dX4_variableCount_2 : decode cX4_variableCount 2 = .ok (.putfield 51, 3) := by decide +kernel
set_option maxRecDepth 100000 in
theorem dX4_variableCount_5 : decode cX4_variableCount 5 = .ok (.aload_n 0, 1) := by decide +kernel
set_option maxRecDepth 100000 in
theorem dX4_variableCount_6 : decode cX4_variableCount 6 = .ok (.getfield 55, 3) := by decide +kernel
set_option maxRecDepth 100000 in
theorem dX4_variableCount_9 : decode cX4_variableCount 9 = .ok (.ireturn, 1) := by decide +kernel
set_option maxRecDepth 100000 in
theorem dX4_sign_0 : decode cX4_sign 0 = .ok (.aload_n 0, 1) := by decide +kernel
set_option maxRecDepth 100000 in
theorem dX4_sign_1 : decode cX4_sign 1 = .ok (.aload_n 0, 1) := by decide +kernel
set_option maxRecDepth 100000 in
theorem dX4_sign_2 : decode cX4_sign 2 = .ok (.iload_n 1, 1) := by decide +kernel
set_option maxRecDepth 100000 in
theorem dX4_sign_3 : decode cX4_sign 3 = .ok (.invokevirtual 66, 3) := by decide +kernel
set_option maxRecDepth 100000 in
theorem dX4_sign_6 : decode cX4_sign 6 = .ok (.ifCond .ne 7, 3) := by decide +kernel
set_option maxRecDepth 100000 in
theorem dX4_sign_9 : decode cX4_sign 9 = .ok (.iconst 1, 1) := by decide +kernel
set_option maxRecDepth 100000 in
theorem dX4_sign_10 : decode cX4_sign 10 = .ok (.goto 17, 3) := by decide +kernel
set_option maxRecDepth 100000 in
theorem dX4_sign_27 : decode cX4_sign 27 = .ok (.putfield 51, 3) := by decide +kernel
set_option maxRecDepth 100000 in
theorem dX4_sign_30 : decode cX4_sign 30 = .ok (.aload_n 0, 1) := by decide +kernel
set_option maxRecDepth 100000 in
theorem dX4_sign_31 : decode cX4_sign 31 = .ok (.getfield 51, 3) := by decide +kernel
set_option maxRecDepth 100000 in
theorem dX4_sign_34 : decode cX4_sign 34 = .ok (.ifCond .ne 12, 3) := by decide +kernel
set_option maxRecDepth 100000 in
theorem dX4_sign_46 : decode cX4_sign 46 = .ok (.iconst 0, 1) := by decide +kernel
set_option maxRecDepth 100000 in
theorem dX4_sign_47 : decode cX4_sign 47 = .ok (.ireturn, 1) := by decide +kernel
set_option maxRecDepth 100000 in
theorem dX4_power_0 : decode cX4_power 0 = .ok (.iconst 1, 1) := by decide +kernel
set_option maxRecDepth 100000 in
theorem dX4_power_1 : decode cX4_power 1 = .ok (.istore_n 1, 1) := by decide +kernel
set_option maxRecDepth 100000 in
theorem dX4_power_2 : decode cX4_power 2 = .ok (.iconst 0, 1) := by decide +kernel
set_option maxRecDepth 100000 in
theorem dX4_power_3 : decode cX4_power 3 = .ok (.istore_n 2, 1) := by decide +kernel
set_option maxRecDepth 100000 in
theorem dX4_power_4 : decode cX4_power 4 = .ok (.iload_n 2, 1) := by decide +kernel
set_option maxRecDepth 100000 in
theorem dX4_power_5 : decode cX4_power 5 = .ok (.iload_n 0, 1) := by decide +kernel
set_option maxRecDepth 100000 in
theorem dX4_power_6 : decode cX4_power 6 = .ok (.if_icmp .ge 14, 3) := by decide +kernel
set_option maxRecDepth 100000 in
theorem dX4_power_20 : decode cX4_power 20 = .ok (.iload_n 1, 1) := by decide +kernel
set_option maxRecDepth 100000 in
theorem dX4_power_21 : decode cX4_power 21 = .ok (.ireturn, 1) := by decide +kernel
set_option maxRecDepth 100000 in
theorem dX4_isAllowed_0 : decode cX4_isAllowed 0 = .ok (.iconst 0, 1) := by decide +kernel
set_option maxRecDepth 100000 in
theorem dX4_isAllowed_1 : decode cX4_isAllowed 1 = .ok (.istore_n 2, 1) := by decide +kernel
set_option maxRecDepth 100000 in
theorem dX4_isAllowed_2 : decode cX4_isAllowed 2 = .ok (.iload_n 2, 1) := by decide +kernel
set_option maxRecDepth 100000 in
theorem dX4_isAllowed_3 : decode cX4_isAllowed 3 = .ok (.aload_n 0, 1) := by decide +kernel
set_option maxRecDepth 100000 in
theorem dX4_isAllowed_4 : decode cX4_isAllowed 4 = .ok (.getfield 55, 3) := by decide +kernel
set_option maxRecDepth 100000 in
theorem dX4_isAllowed_7 : decode cX4_isAllowed 7 = .ok (.if_icmp .ge 25, 3) := by decide +kernel
set_option maxRecDepth 100000 in
theorem dX4_isAllowed_32 : decode cX4_isAllowed 32 = .ok (.iconst 0, 1) := by decide +kernel
set_option maxRecDepth 100000 in
theorem dX4_isAllowed_33 : decode cX4_isAllowed 33 = .ok (.istore_n 2, 1) := by decide +kernel
set_option maxRecDepth 100000 in
theorem dX4_isAllowed_34 : decode cX4_isAllowed 34 = .ok (.iload_n 2, 1) := by decide +kernel
set_option maxRecDepth 100000 in
theorem dX4_isAllowed_35 : decode cX4_isAllowed 35 = .ok (.aload_n 0, 1) := by decide +kernel
set_option maxRecDepth 100000 in
theorem dX4_isAllowed_36 : decode cX4_isAllowed 36 = .ok (.getfield 70, 3) := by decide +kernel
set_option maxRecDepth 100000 in
theorem dX4_isAllowed_39 : decode cX4_isAllowed 39 = .ok (.if_icmp .ge 20, 3) := by decide +kernel
set_option maxRecDepth 100000 in
theorem dX4_isAllowed_59 : decode cX4_isAllowed 59 = .ok (.iconst 1, 1) := by decide +kernel
set_option maxRecDepth 100000 in
theorem dX4_isAllowed_60 : decode cX4_isAllowed 60 = .ok (.ireturn, 1) := by decide +kernel
set_option maxRecDepth 100000 in
theorem dX4_follows_0 : decode cX4_follows 0 = .ok (.iload_n 1, 1) := by decide +kernel
set_option maxRecDepth 100000 in
theorem dX4_follows_1 : decode cX4_follows 1 = .ok (.iconst 2, 1) := by decide +kernel
set_option maxRecDepth 100000 in
theorem dX4_follows_2 : decode cX4_follows 2 = .ok (.irem, 1) := by decide +kernel
set_option maxRecDepth 100000 in
theorem dX4_follows_3 : decode cX4_follows 3 = .ok (.iload_n 2, 1) := by decide +kernel
set_option maxRecDepth 100000 in
theorem dX4_follows_4 : decode cX4_follows 4 = .ok (.iconst 2, 1) := by decide +kernel
set_option maxRecDepth 100000 in
theorem dX4_follows_5 : decode cX4_follows 5 = .ok (.irem, 1) := by decide +kernel
set_option maxRecDepth 100000 in
theorem dX4_follows_6 : decode cX4_follows 6 = .ok (.if_icmp .eq 19, 3) := by decide +kernel
set_option maxRecDepth 100000 in
theorem dX4_follows_9 : decode cX4_follows 9 = .ok (.iload_n 1, 1) := by decide +kernel
set_option maxRecDepth 100000 in
theorem dX4_follows_10 : decode cX4_follows 10 = .ok (.iconst 2, 1) := by decide +kernel
set_option maxRecDepth 100000 in
theorem dX4_follows_11 : decode cX4_follows 11 = .ok (.irem, 1) := by decide +kernel
set_option maxRecDepth 100000 in
theorem dX4_follows_12 : decode cX4_follows 12 = .ok (.iconst 1, 1) := by decide +kernel
set_option maxRecDepth 100000 in
theorem dX4_follows_13 : decode cX4_follows 13 = .ok (.if_icmp .ne 14, 3) := by decide +kernel
set_option maxRecDepth 100000 in
theorem dX4_follows_16 : decode cX4_follows 16 = .ok (.iload_n 1, 1) := by decide +kernel
set_option maxRecDepth 100000 in
theorem dX4_follows_17 : decode cX4_follows 17 = .ok (.iconst 2, 1) := by decide +kernel
set_option maxRecDepth 100000 in
theorem dX4_follows_18 : decode cX4_follows 18 = .ok (.idiv, 1) := by decide +kernel
set_option maxRecDepth 100000 in
theorem dX4_follows_19 : decode cX4_follows 19 = .ok (.iload_n 2, 1) := by decide +kernel
set_option maxRecDepth 100000 in
theorem dX4_follows_20 : decode cX4_follows 20 = .ok (.iconst 2, 1) := by decide +kernel
set_option maxRecDepth 100000 in
theorem dX4_follows_21 : decode cX4_follows 21 = .ok (.idiv, 1) := by decide +kernel
set_option maxRecDepth 100000 in
theorem dX4_follows_22 : decode cX4_follows 22 = .ok (.if_icmp .ne 5, 3) := by decide +kernel
set_option maxRecDepth 100000 in
theorem dX4_follows_25 : decode cX4_follows 25 = .ok (.iconst 0, 1) := by decide +kernel
set_option maxRecDepth 100000 in
theorem dX4_follows_26 : decode cX4_follows 26 = .ok (.ireturn, 1) := by decide +kernel
set_option maxRecDepth 100000 in
theorem dX4_follows_27 : decode cX4_follows 27 = .ok (.iconst 1, 1) := by decide +kernel
set_option maxRecDepth 100000 in
theorem dX4_follows_28 : decode cX4_follows 28 = .ok (.istore_n 3, 1) := by decide +kernel
set_option maxRecDepth 100000 in
theorem dX4_follows_29 : decode cX4_follows 29 = .ok (.iconst 0, 1) := by decide +kernel
set_option maxRecDepth 100000 in
theorem dX4_follows_30 : decode cX4_follows 30 = .ok (.istore 4, 2) := by decide +kernel
set_option maxRecDepth 100000 in
theorem dX4_follows_32 : decode cX4_follows 32 = .ok (.iload 4, 2) := by decide +kernel
set_option maxRecDepth 100000 in
theorem dX4_follows_34 : decode cX4_follows 34 = .ok (.aload_n 0, 1) := by decide +kernel
set_option maxRecDepth 100000 in
theorem dX4_follows_35 : decode cX4_follows 35 = .ok (.getfield 55, 3) := by decide +kernel
set_option maxRecDepth 100000 in
theorem dX4_follows_38 : decode cX4_follows 38 = .ok (.if_icmp .ge 30, 3) := by decide +kernel
set_option maxRecDepth 100000 in
theorem dX4_follows_68 : decode cX4_follows 68 = .ok (.iload_n 3, 1) := by decide +kernel
set_option maxRecDepth 100000 in
theorem dX4_follows_69 : decode cX4_follows 69 = .ok (.ireturn, 1) := by decide +kernel
set_option maxRecDepth 100000 in
theorem dX4_numberOf_0 : decode cX4_numberOf 0 = .ok (.iconst 0, 1) := by decide +kernel
set_option maxRecDepth 100000 in
theorem dX4_numberOf_1 : decode cX4_numberOf 1 = .ok (.istore_n 2, 1) := by decide +kernel
set_option maxRecDepth 100000 in
theorem dX4_numberOf_2 : decode cX4_numberOf 2 = .ok (.iload_n 2, 1) := by decide +kernel
set_option maxRecDepth 100000 in
theorem dX4_numberOf_3 : decode cX4_numberOf 3 = .ok (.aload_n 0, 1) := by decide +kernel
set_option maxRecDepth 100000 in
theorem dX4_numberOf_4 : decode cX4_numberOf 4 = .ok (.getfield 108, 3) := by decide +kernel
set_option maxRecDepth 100000 in
theorem dX4_numberOf_7 : decode cX4_numberOf 7 = .ok (.if_icmp .ge 21, 3) := by decide +kernel
set_option maxRecDepth 100000 in
theorem dX4_numberOf_10 : decode cX4_numberOf 10 = .ok (.aload_n 0, 1) := by decide +kernel
set_option maxRecDepth 100000 in
theorem dX4_numberOf_11 : decode cX4_numberOf 11 = .ok (.getfield 34, 3) := by decide +kernel
set_option maxRecDepth 100000 in
theorem dX4_numberOf_14 : decode cX4_numberOf 14 = .ok (.iload_n 2, 1) := by decide +kernel
set_option maxRecDepth 100000 in
theorem dX4_numberOf_15 : decode cX4_numberOf 15 = .ok (.iaload, 1) := by decide +kernel
set_option maxRecDepth 100000 in
theorem dX4_numberOf_16 : decode cX4_numberOf 16 = .ok (.iload_n 1, 1) := by decide +kernel
set_option maxRecDepth 100000 in
theorem dX4_numberOf_17 : decode cX4_numberOf 17 = .ok (.if_icmp .ne 5, 3) := by decide +kernel
set_option maxRecDepth 100000 in
theorem dX4_numberOf_22 : decode cX4_numberOf 22 = .ok (.iinc 2 1, 3) := by decide +kernel
set_option maxRecDepth 100000 in
theorem dX4_numberOf_25 : decode cX4_numberOf 25 = .ok (.goto (-23), 3) := by decide +kernel
set_option maxRecDepth 100000 in
theorem dX4_numberOf_28 : decode cX4_numberOf 28 = .ok (.iconst (-1), 1) := by decide +kernel
set_option maxRecDepth 100000 in
theorem dX4_numberOf_29 : decode cX4_numberOf 29 = .ok (.ireturn, 1) := by decide +kernel
set_option maxRecDepth 100000 in
theorem dX4_add_0 : decode cX4_add 0 = .ok (.aload_n 0, 1) := by decide +kernel
set_option maxRecDepth 100000 in
theorem dX4_add_1 : decode cX4_add 1 = .ok (.iload_n 1, 1) := by decide +kernel
set_option maxRecDepth 100000 in
theorem dX4_add_2 : decode cX4_add 2 = .ok (.invokevirtual 111, 3) := by decide +kernel
set_option maxRecDepth 100000 in
theorem dX4_add_5 : decode cX4_add 5 = .ok (.iconst (-1), 1) := by decide +kernel
set_option maxRecDepth 100000 in
theorem dX4_add_6 : decode cX4_add 6 = .ok (.if_icmp .eq 5, 3) := by decide +kernel
set_option maxRecDepth 100000 in
theorem dX4_add_11 : decode cX4_add 11 = .ok (.aload_n 0, 1) := by decide +kernel
set_option maxRecDepth 100000 in
theorem dX4_add_12 : decode cX4_add 12 = .ok (.getfield 108, 3) := by decide +kernel
set_option maxRecDepth 100000 in
theorem dX4_add_15 : decode cX4_add 15 = .ok (.sipush 250, 3) := by decide +kernel
set_option maxRecDepth 100000 in
theorem dX4_add_18 : decode cX4_add 18 = .ok (.if_icmp .ne 10, 3) := by decide +kernel
set_option maxRecDepth 100000 in
theorem dX4_add_28 : decode cX4_add 28 = .ok (.aload_n 0, 1) := by decide +kernel
set_option maxRecDepth 100000 in
theorem dX4_add_29 : decode cX4_add 29 = .ok (.getfield 34, 3) := by decide +kernel
set_option maxRecDepth 100000 in
theorem dX4_add_32 : decode cX4_add 32 = .ok (.aload_n 0, 1) := by decide +kernel
set_option maxRecDepth 100000 in
theorem dX4_add_33 : decode cX4_add 33 = .ok (.getfield 108, 3) := by decide +kernel
set_option maxRecDepth 100000 in
theorem dX4_add_36 : decode cX4_add 36 = .ok (.iload_n 1, 1) := by decide +kernel
set_option maxRecDepth 100000 in
theorem dX4_add_37 : decode cX4_add 37 = .ok (.iastore, 1) := by decide +kernel
set_option maxRecDepth 100000 in
theorem dX4_add_38 : decode cX4_add 38 = .ok (.aload_n 0, 1) := by decide +kernel
set_option maxRecDepth 100000 in
theorem dX4_add_39 : decode cX4_add 39 = .ok (.getfield 37, 3) := by decide +kernel
set_option maxRecDepth 100000 in
theorem dX4_add_42 : decode cX4_add 42 = .ok (.aload_n 0, 1) := by decide +kernel
set_option maxRecDepth 100000 in
theorem dX4_add_43 : decode cX4_add 43 = .ok (.getfield 108, 3) := by decide +kernel
set_option maxRecDepth 100000 in
theorem dX4_add_46 : decode cX4_add 46 = .ok (.iload_n 2, 1) := by decide +kernel
set_option maxRecDepth 100000 in
theorem dX4_add_47 : decode cX4_add 47 = .ok (.iastore, 1) := by decide +kernel
set_option maxRecDepth 100000 in
theorem dX4_add_48 : decode cX4_add 48 = .ok (.aload_n 0, 1) := by decide +kernel
set_option maxRecDepth 100000 in
theorem dX4_add_49 : decode cX4_add 49 = .ok (.dup, 1) := by decide +kernel
set_option maxRecDepth 100000 in
theorem dX4_add_50 : decode cX4_add 50 = .ok (.getfield 108, 3) := by decide +kernel
set_option maxRecDepth 100000 in
theorem dX4_add_53 : decode cX4_add 53 = .ok (.iconst 1, 1) := by decide +kernel
set_option maxRecDepth 100000 in
theorem dX4_add_54 : decode cX4_add 54 = .ok (.iadd, 1) := by decide +kernel
set_option maxRecDepth 100000 in
theorem dX4_add_55 : decode cX4_add 55 = .ok (.putfield 108, 3) := by decide +kernel
set_option maxRecDepth 100000 in
theorem dX4_add_58 : decode cX4_add 58 = .ok (.iconst 1, 1) := by decide +kernel
set_option maxRecDepth 100000 in
theorem dX4_add_59 : decode cX4_add 59 = .ok (.ireturn, 1) := by decide +kernel
set_option maxRecDepth 100000 in
theorem dX4_isGiven_0 : decode cX4_isGiven 0 = .ok (.iconst 1, 1) := by decide +kernel
set_option maxRecDepth 100000 in
theorem dX4_isGiven_1 : decode cX4_isGiven 1 = .ok (.istore_n 2, 1) := by decide +kernel
set_option maxRecDepth 100000 in
theorem dX4_isGiven_2 : decode cX4_isGiven 2 = .ok (.iconst 0, 1) := by decide +kernel
set_option maxRecDepth 100000 in
theorem dX4_isGiven_3 : decode cX4_isGiven 3 = .ok (.istore_n 3, 1) := by decide +kernel
set_option maxRecDepth 100000 in
theorem dX4_isGiven_4 : decode cX4_isGiven 4 = .ok (.iload_n 3, 1) := by decide +kernel
set_option maxRecDepth 100000 in
theorem dX4_isGiven_5 : decode cX4_isGiven 5 = .ok (.aload_n 0, 1) := by decide +kernel
set_option maxRecDepth 100000 in
theorem dX4_isGiven_6 : decode cX4_isGiven 6 = .ok (.getfield 55, 3) := by decide +kernel
set_option maxRecDepth 100000 in
theorem dX4_isGiven_9 : decode cX4_isGiven 9 = .ok (.if_icmp .ge 69, 3) := by decide +kernel
set_option maxRecDepth 100000 in
theorem dX4_isGiven_78 : decode cX4_isGiven 78 = .ok (.iload_n 2, 1) := by decide +kernel
set_option maxRecDepth 100000 in
theorem dX4_isGiven_79 : decode cX4_isGiven 79 = .ok (.ireturn, 1) := by decide +kernel
set_option maxRecDepth 100000 in
theorem dX4_choose_0 : decode cX4_choose 0 = .ok (.iconst 1, 1) := by decide +kernel
set_option maxRecDepth 100000 in
theorem dX4_choose_1 : decode cX4_choose 1 = .ok (.iload_n 1, 1) := by decide +kernel
set_option maxRecDepth 100000 in
theorem dX4_choose_2 : decode cX4_choose 2 = .ok (.iconst 2, 1) := by decide +kernel
set_option maxRecDepth 100000 in
theorem dX4_choose_3 : decode cX4_choose 3 = .ok (.irem, 1) := by decide +kernel
set_option maxRecDepth 100000 in
theorem dX4_choose_4 : decode cX4_choose 4 = .ok (.isub, 1) := by decide +kernel
set_option maxRecDepth 100000 in
theorem dX4_choose_5 : decode cX4_choose 5 = .ok (.istore_n 2, 1) := by decide +kernel
set_option maxRecDepth 100000 in
theorem dX4_choose_6 : decode cX4_choose 6 = .ok (.iconst 0, 1) := by decide +kernel
set_option maxRecDepth 100000 in
theorem dX4_choose_7 : decode cX4_choose 7 = .ok (.istore_n 3, 1) := by decide +kernel
set_option maxRecDepth 100000 in
theorem dX4_choose_8 : decode cX4_choose 8 = .ok (.iload_n 3, 1) := by decide +kernel
set_option maxRecDepth 100000 in
theorem dX4_choose_9 : decode cX4_choose 9 = .ok (.aload_n 0, 1) := by decide +kernel
set_option maxRecDepth 100000 in
theorem dX4_choose_10 : decode cX4_choose 10 = .ok (.getfield 55, 3) := by decide +kernel
set_option maxRecDepth 100000 in
theorem dX4_choose_13 : decode cX4_choose 13 = .ok (.if_icmp .ge 121, 3) := by decide +kernel
set_option maxRecDepth 100000 in
theorem dX4_choose_134 : decode cX4_choose 134 = .ok (.return_, 1) := by decide +kernel
set_option maxRecDepth 100000 in
theorem dX4_expand_0 : decode cX4_expand 0 = .ok (.aload_n 0, 1) := by decide +kernel
set_option maxRecDepth 100000 in
theorem dX4_expand_1 : decode cX4_expand 1 = .ok (.aload_n 0, 1) := by decide +kernel
set_option maxRecDepth 100000 in
theorem dX4_expand_2 : decode cX4_expand 2 = .ok (.getfield 34, 3) := by decide +kernel
set_option maxRecDepth 100000 in
theorem dX4_expand_5 : decode cX4_expand 5 = .ok (.iload_n 1, 1) := by decide +kernel
set_option maxRecDepth 100000 in
theorem dX4_expand_6 : decode cX4_expand 6 = .ok (.iaload, 1) := by decide +kernel
set_option maxRecDepth 100000 in
theorem dX4_expand_7 : decode cX4_expand 7 = .ok (.invokevirtual 117, 3) := by decide +kernel
set_option maxRecDepth 100000 in
theorem dX4_expand_10 : decode cX4_expand 10 = .ok (.iconst 1, 1) := by decide +kernel
set_option maxRecDepth 100000 in
theorem dX4_expand_11 : decode cX4_expand 11 = .ok (.istore_n 2, 1) := by decide +kernel
set_option maxRecDepth 100000 in
theorem dX4_expand_12 : decode cX4_expand 12 = .ok (.iconst 0, 1) := by decide +kernel
set_option maxRecDepth 100000 in
theorem dX4_expand_13 : decode cX4_expand 13 = .ok (.istore_n 3, 1) := by decide +kernel
set_option maxRecDepth 100000 in
theorem dX4_expand_14 : decode cX4_expand 14 = .ok (.iload_n 3, 1) := by decide +kernel
set_option maxRecDepth 100000 in
theorem dX4_expand_15 : decode cX4_expand 15 = .ok (.aload_n 0, 1) := by decide +kernel
set_option maxRecDepth 100000 in
theorem dX4_expand_16 : decode cX4_expand 16 = .ok (.getfield 55, 3) := by decide +kernel
set_option maxRecDepth 100000 in
theorem dX4_expand_19 : decode cX4_expand 19 = .ok (.if_icmp .ge 18, 3) := by decide +kernel
set_option maxRecDepth 100000 in
theorem dX4_expand_37 : decode cX4_expand 37 = .ok (.iconst 0, 1) := by decide +kernel
set_option maxRecDepth 100000 in
theorem dX4_expand_38 : decode cX4_expand 38 = .ok (.istore_n 3, 1) := by decide +kernel
set_option maxRecDepth 100000 in
theorem dX4_expand_39 : decode cX4_expand 39 = .ok (.iload_n 3, 1) := by decide +kernel
set_option maxRecDepth 100000 in
theorem dX4_expand_40 : decode cX4_expand 40 = .ok (.iload_n 2, 1) := by decide +kernel
set_option maxRecDepth 100000 in
theorem dX4_expand_41 : decode cX4_expand 41 = .ok (.if_icmp .ge 139, 3) := by decide +kernel
set_option maxRecDepth 100000 in
theorem dX4_expand_44 : decode cX4_expand 44 = .ok (.iconst 0, 1) := by decide +kernel
set_option maxRecDepth 100000 in
theorem dX4_expand_45 : decode cX4_expand 45 = .ok (.istore 4, 2) := by decide +kernel
set_option maxRecDepth 100000 in
theorem dX4_expand_47 : decode cX4_expand 47 = .ok (.iload_n 3, 1) := by decide +kernel
set_option maxRecDepth 100000 in
theorem dX4_expand_48 : decode cX4_expand 48 = .ok (.istore 5, 2) := by decide +kernel
set_option maxRecDepth 100000 in
theorem dX4_expand_50 : decode cX4_expand 50 = .ok (.iload_n 2, 1) := by decide +kernel
set_option maxRecDepth 100000 in
theorem dX4_expand_51 : decode cX4_expand 51 = .ok (.istore 6, 2) := by decide +kernel
set_option maxRecDepth 100000 in
theorem dX4_expand_53 : decode cX4_expand 53 = .ok (.iconst 0, 1) := by decide +kernel
set_option maxRecDepth 100000 in
theorem dX4_expand_54 : decode cX4_expand 54 = .ok (.istore 7, 2) := by decide +kernel
set_option maxRecDepth 100000 in
theorem dX4_expand_56 : decode cX4_expand 56 = .ok (.iload 7, 2) := by decide +kernel
set_option maxRecDepth 100000 in
theorem dX4_expand_58 : decode cX4_expand 58 = .ok (.aload_n 0, 1) := by decide +kernel
set_option maxRecDepth 100000 in
theorem dX4_expand_59 : decode cX4_expand 59 = .ok (.getfield 55, 3) := by decide +kernel
set_option maxRecDepth 100000 in
theorem dX4_expand_62 : decode cX4_expand 62 = .ok (.if_icmp .ge 52, 3) := by decide +kernel
set_option maxRecDepth 100000 in
theorem dX4_expand_114 : decode cX4_expand 114 = .ok (.iconst 2, 1) := by decide +kernel
set_option maxRecDepth 100000 in
theorem dX4_expand_115 : decode cX4_expand 115 = .ok (.iload 4, 2) := by decide +kernel
set_option maxRecDepth 100000 in
theorem dX4_expand_117 : decode cX4_expand 117 = .ok (.imul, 1) := by decide +kernel
set_option maxRecDepth 100000 in
theorem dX4_expand_118 : decode cX4_expand 118 = .ok (.iconst 1, 1) := by decide +kernel
set_option maxRecDepth 100000 in
theorem dX4_expand_119 : decode cX4_expand 119 = .ok (.iadd, 1) := by decide +kernel
set_option maxRecDepth 100000 in
theorem dX4_expand_120 : decode cX4_expand 120 = .ok (.aload_n 0, 1) := by decide +kernel
set_option maxRecDepth 100000 in
theorem dX4_expand_121 : decode cX4_expand 121 = .ok (.getfield 34, 3) := by decide +kernel
set_option maxRecDepth 100000 in
theorem dX4_expand_124 : decode cX4_expand 124 = .ok (.iload_n 1, 1) := by decide +kernel
set_option maxRecDepth 100000 in
theorem dX4_expand_125 : decode cX4_expand 125 = .ok (.iaload, 1) := by decide +kernel
set_option maxRecDepth 100000 in
theorem dX4_expand_126 : decode cX4_expand 126 = .ok (.iconst 2, 1) := by decide +kernel
set_option maxRecDepth 100000 in
theorem dX4_expand_127 : decode cX4_expand 127 = .ok (.irem, 1) := by decide +kernel
set_option maxRecDepth 100000 in
theorem dX4_expand_128 : decode cX4_expand 128 = .ok (.isub, 1) := by decide +kernel
set_option maxRecDepth 100000 in
theorem dX4_expand_129 : decode cX4_expand 129 = .ok (.istore 7, 2) := by decide +kernel
set_option maxRecDepth 100000 in
theorem dX4_expand_131 : decode cX4_expand 131 = .ok (.aload_n 0, 1) := by decide +kernel
set_option maxRecDepth 100000 in
theorem dX4_expand_132 : decode cX4_expand 132 = .ok (.aload_n 0, 1) := by decide +kernel
set_option maxRecDepth 100000 in
theorem dX4_expand_133 : decode cX4_expand 133 = .ok (.getfield 34, 3) := by decide +kernel
set_option maxRecDepth 100000 in
theorem dX4_expand_136 : decode cX4_expand 136 = .ok (.iload_n 1, 1) := by decide +kernel
set_option maxRecDepth 100000 in
theorem dX4_expand_137 : decode cX4_expand 137 = .ok (.iaload, 1) := by decide +kernel
set_option maxRecDepth 100000 in
theorem dX4_expand_138 : decode cX4_expand 138 = .ok (.iload 7, 2) := by decide +kernel
set_option maxRecDepth 100000 in
theorem dX4_expand_140 : decode cX4_expand 140 = .ok (.invokevirtual 121, 3) := by decide +kernel
set_option maxRecDepth 100000 in
theorem dX4_expand_143 : decode cX4_expand 143 = .ok (.ifCond .eq 31, 3) := by decide +kernel
set_option maxRecDepth 100000 in
theorem dX4_expand_146 : decode cX4_expand 146 = .ok (.aload_n 0, 1) := by decide +kernel
set_option maxRecDepth 100000 in
theorem dX4_expand_147 : decode cX4_expand 147 = .ok (.iload 7, 2) := by decide +kernel
set_option maxRecDepth 100000 in
theorem dX4_expand_149 : decode cX4_expand 149 = .ok (.invokevirtual 124, 3) := by decide +kernel
set_option maxRecDepth 100000 in
theorem dX4_expand_152 : decode cX4_expand 152 = .ok (.ifCond .eq 22, 3) := by decide +kernel
set_option maxRecDepth 100000 in
theorem dX4_expand_155 : decode cX4_expand 155 = .ok (.aload_n 0, 1) := by decide +kernel
set_option maxRecDepth 100000 in
theorem dX4_expand_156 : decode cX4_expand 156 = .ok (.iload 7, 2) := by decide +kernel
set_option maxRecDepth 100000 in
theorem dX4_expand_158 : decode cX4_expand 158 = .ok (.aload_n 0, 1) := by decide +kernel
set_option maxRecDepth 100000 in
theorem dX4_expand_159 : decode cX4_expand 159 = .ok (.getfield 37, 3) := by decide +kernel
set_option maxRecDepth 100000 in
theorem dX4_expand_162 : decode cX4_expand 162 = .ok (.iload_n 1, 1) := by decide +kernel
set_option maxRecDepth 100000 in
theorem dX4_expand_163 : decode cX4_expand 163 = .ok (.iaload, 1) := by decide +kernel
set_option maxRecDepth 100000 in
theorem dX4_expand_164 : decode cX4_expand 164 = .ok (.iconst 1, 1) := by decide +kernel
set_option maxRecDepth 100000 in
theorem dX4_expand_165 : decode cX4_expand 165 = .ok (.iadd, 1) := by decide +kernel
set_option maxRecDepth 100000 in
theorem dX4_expand_166 : decode cX4_expand 166 = .ok (.invokevirtual 127, 3) := by decide +kernel
set_option maxRecDepth 100000 in
theorem dX4_expand_169 : decode cX4_expand 169 = .ok (.ifCond .ne 5, 3) := by decide +kernel
set_option maxRecDepth 100000 in
theorem dX4_expand_174 : decode cX4_expand 174 = .ok (.iinc 3 1, 3) := by decide +kernel
set_option maxRecDepth 100000 in
theorem dX4_expand_177 : decode cX4_expand 177 = .ok (.goto (-138), 3) := by decide +kernel
set_option maxRecDepth 100000 in
theorem dX4_expand_180 : decode cX4_expand 180 = .ok (.iconst 1, 1) := by decide +kernel
set_option maxRecDepth 100000 in
theorem dX4_expand_181 : decode cX4_expand 181 = .ok (.ireturn, 1) := by decide +kernel
set_option maxRecDepth 100000 in
theorem dX4_find_0 : decode cX4_find 0 = .ok (.aload_n 0, 1) := by decide +kernel
set_option maxRecDepth 100000 in
theorem dX4_find_1 : decode cX4_find 1 = .ok (.iconst 0, 1) := by decide +kernel
set_option maxRecDepth 100000 in
theorem dX4_find_2 : decode cX4_find 2 = .ok (.putfield 108, 3) := by decide +kernel
set_option maxRecDepth 100000 in
theorem dX4_find_5 : decode cX4_find 5 = .ok (.aload_n 0, 1) := by decide +kernel
set_option maxRecDepth 100000 in
theorem dX4_find_6 : decode cX4_find 6 = .ok (.iconst 1, 1) := by decide +kernel
set_option maxRecDepth 100000 in
theorem dX4_find_7 : decode cX4_find 7 = .ok (.putfield 114, 3) := by decide +kernel
set_option maxRecDepth 100000 in
theorem dX4_find_10 : decode cX4_find 10 = .ok (.aload_n 0, 1) := by decide +kernel
set_option maxRecDepth 100000 in
theorem dX4_find_11 : decode cX4_find 11 = .ok (.getfield 55, 3) := by decide +kernel
set_option maxRecDepth 100000 in
theorem dX4_find_14 : decode cX4_find 14 = .ok (.invokestatic 86, 3) := by decide +kernel
set_option maxRecDepth 100000 in
theorem dX4_find_17 : decode cX4_find 17 = .ok (.istore_n 1, 1) := by decide +kernel
set_option maxRecDepth 100000 in
theorem dX4_find_18 : decode cX4_find 18 = .ok (.iconst 0, 1) := by decide +kernel
set_option maxRecDepth 100000 in
theorem dX4_find_19 : decode cX4_find 19 = .ok (.istore_n 2, 1) := by decide +kernel
set_option maxRecDepth 100000 in
theorem dX4_find_20 : decode cX4_find 20 = .ok (.iload_n 2, 1) := by decide +kernel
set_option maxRecDepth 100000 in
theorem dX4_find_21 : decode cX4_find 21 = .ok (.iload_n 1, 1) := by decide +kernel
set_option maxRecDepth 100000 in
theorem dX4_find_22 : decode cX4_find 22 = .ok (.if_icmp .ge 45, 3) := by decide +kernel
set_option maxRecDepth 100000 in
theorem dX4_find_25 : decode cX4_find 25 = .ok (.aload_n 0, 1) := by decide +kernel
set_option maxRecDepth 100000 in
theorem dX4_find_26 : decode cX4_find 26 = .ok (.getfield 114, 3) := by decide +kernel
set_option maxRecDepth 100000 in
theorem dX4_find_29 : decode cX4_find 29 = .ok (.ifCond .eq 38, 3) := by decide +kernel
set_option maxRecDepth 100000 in
theorem dX4_find_32 : decode cX4_find 32 = .ok (.aload_n 0, 1) := by decide +kernel
set_option maxRecDepth 100000 in
theorem dX4_find_33 : decode cX4_find 33 = .ok (.iconst 2, 1) := by decide +kernel
set_option maxRecDepth 100000 in
theorem dX4_find_34 : decode cX4_find 34 = .ok (.iload_n 2, 1) := by decide +kernel
set_option maxRecDepth 100000 in
theorem dX4_find_35 : decode cX4_find 35 = .ok (.imul, 1) := by decide +kernel
set_option maxRecDepth 100000 in
theorem dX4_find_36 : decode cX4_find 36 = .ok (.invokevirtual 124, 3) := by decide +kernel
set_option maxRecDepth 100000 in
theorem dX4_find_39 : decode cX4_find 39 = .ok (.ifCond .eq 22, 3) := by decide +kernel
set_option maxRecDepth 100000 in
theorem dX4_find_42 : decode cX4_find 42 = .ok (.aload_n 0, 1) := by decide +kernel
set_option maxRecDepth 100000 in
theorem dX4_find_43 : decode cX4_find 43 = .ok (.iconst 2, 1) := by decide +kernel
set_option maxRecDepth 100000 in
theorem dX4_find_44 : decode cX4_find 44 = .ok (.iload_n 2, 1) := by decide +kernel
set_option maxRecDepth 100000 in
theorem dX4_find_45 : decode cX4_find 45 = .ok (.imul, 1) := by decide +kernel
