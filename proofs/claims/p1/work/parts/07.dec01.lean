set_option maxRecDepth 100000 in
theorem dX2_exploreAll_65 : decode cX2_exploreAll 65 = .ok (.getfield 32, 3) := by decide +kernel
set_option maxRecDepth 100000 in
theorem dX2_exploreAll_68 : decode cX2_exploreAll 68 = .ok (.putfield 51, 3) := by decide +kernel
set_option maxRecDepth 100000 in
theorem dX2_exploreAll_71 : decode cX2_exploreAll 71 = .ok (.iinc 1 1, 3) := by decide +kernel
set_option maxRecDepth 100000 in
theorem dX2_exploreAll_74 : decode cX2_exploreAll 74 = .ok (.goto (-65), 3) := by decide +kernel
set_option maxRecDepth 100000 in
theorem dX2_exploreAll_77 : decode cX2_exploreAll 77 = .ok (.aload_n 0, 1) := by decide +kernel
set_option maxRecDepth 100000 in
theorem dX2_exploreAll_78 : decode cX2_exploreAll 78 = .ok (.invokevirtual 54, 3) := by decide +kernel
set_option maxRecDepth 100000 in
theorem dX2_exploreAll_81 : decode cX2_exploreAll 81 = .ok (.return_, 1) := by decide +kernel
set_option maxRecDepth 100000 in
theorem dX2_setToFollowing_0 : decode cX2_setToFollowing 0 = .ok (.iconst 0, 1) := by decide +kernel
set_option maxRecDepth 100000 in
theorem dX2_setToFollowing_1 : decode cX2_setToFollowing 1 = .ok (.istore_n 2, 1) := by decide +kernel
set_option maxRecDepth 100000 in
theorem dX2_setToFollowing_2 : decode cX2_setToFollowing 2 = .ok (.iload_n 2, 1) := by decide +kernel
set_option maxRecDepth 100000 in
theorem dX2_setToFollowing_3 : decode cX2_setToFollowing 3 = .ok (.aload_n 0, 1) := by decide +kernel
set_option maxRecDepth 100000 in
theorem dX2_setToFollowing_4 : decode cX2_setToFollowing 4 = .ok (.getfield 19, 3) := by decide +kernel
set_option maxRecDepth 100000 in
theorem dX2_setToFollowing_7 : decode cX2_setToFollowing 7 = .ok (.getfield 57, 3) := by decide +kernel
set_option maxRecDepth 100000 in
theorem dX2_setToFollowing_10 : decode cX2_setToFollowing 10 = .ok (.if_icmp .ge 106, 3) := by decide +kernel
set_option maxRecDepth 100000 in
theorem dX2_setToFollowing_116 : decode cX2_setToFollowing 116 = .ok (.return_, 1) := by decide +kernel
set_option maxRecDepth 100000 in
theorem dX2_narrowUntilStable_0 : decode cX2_narrowUntilStable 0 = .ok (.iconst 0, 1) := by decide +kernel
set_option maxRecDepth 100000 in
theorem dX2_narrowUntilStable_1 : decode cX2_narrowUntilStable 1 = .ok (.istore_n 1, 1) := by decide +kernel
set_option maxRecDepth 100000 in
theorem dX2_narrowUntilStable_2 : decode cX2_narrowUntilStable 2 = .ok (.iload_n 1, 1) := by decide +kernel
set_option maxRecDepth 100000 in
theorem dX2_narrowUntilStable_3 : decode cX2_narrowUntilStable 3 = .ok (.bipush 84, 2) := by decide +kernel
set_option maxRecDepth 100000 in
theorem dX2_narrowUntilStable_5 : decode cX2_narrowUntilStable 5 = .ok (.if_icmp .ge 54, 3) := by decide +kernel
set_option maxRecDepth 100000 in
theorem dX2_narrowUntilStable_8 : decode cX2_narrowUntilStable 8 = .ok (.aload_n 0, 1) := by decide +kernel
set_option maxRecDepth 100000 in
theorem dX2_narrowUntilStable_9 : decode cX2_narrowUntilStable 9 = .ok (.invokevirtual 83, 3) := by decide +kernel
set_option maxRecDepth 100000 in
theorem dX2_narrowUntilStable_12 : decode cX2_narrowUntilStable 12 = .ok (.istore_n 2, 1) := by decide +kernel
set_option maxRecDepth 100000 in
theorem dX2_narrowUntilStable_13 : decode cX2_narrowUntilStable 13 = .ok (.iconst 0, 1) := by decide +kernel
set_option maxRecDepth 100000 in
theorem dX2_narrowUntilStable_14 : decode cX2_narrowUntilStable 14 = .ok (.istore_n 3, 1) := by decide +kernel
set_option maxRecDepth 100000 in
theorem dX2_narrowUntilStable_15 : decode cX2_narrowUntilStable 15 = .ok (.iload_n 3, 1) := by decide +kernel
set_option maxRecDepth 100000 in
theorem dX2_narrowUntilStable_16 : decode cX2_narrowUntilStable 16 = .ok (.aload_n 0, 1) := by decide +kernel
set_option maxRecDepth 100000 in
theorem dX2_narrowUntilStable_17 : decode cX2_narrowUntilStable 17 = .ok (.getfield 19, 3) := by decide +kernel
set_option maxRecDepth 100000 in
theorem dX2_narrowUntilStable_20 : decode cX2_narrowUntilStable 20 = .ok (.getfield 87, 3) := by decide +kernel
set_option maxRecDepth 100000 in
theorem dX2_narrowUntilStable_23 : decode cX2_narrowUntilStable 23 = .ok (.if_icmp .ge 20, 3) := by decide +kernel
set_option maxRecDepth 100000 in
theorem dX2_narrowUntilStable_43 : decode cX2_narrowUntilStable 43 = .ok (.aload_n 0, 1) := by decide +kernel
set_option maxRecDepth 100000 in
theorem dX2_narrowUntilStable_44 : decode cX2_narrowUntilStable 44 = .ok (.invokevirtual 83, 3) := by decide +kernel
set_option maxRecDepth 100000 in
theorem dX2_narrowUntilStable_47 : decode cX2_narrowUntilStable 47 = .ok (.iload_n 2, 1) := by decide +kernel
set_option maxRecDepth 100000 in
theorem dX2_narrowUntilStable_48 : decode cX2_narrowUntilStable 48 = .ok (.if_icmp .ne 5, 3) := by decide +kernel
set_option maxRecDepth 100000 in
theorem dX2_narrowUntilStable_51 : decode cX2_narrowUntilStable 51 = .ok (.iconst 1, 1) := by decide +kernel
set_option maxRecDepth 100000 in
theorem dX2_narrowUntilStable_52 : decode cX2_narrowUntilStable 52 = .ok (.ireturn, 1) := by decide +kernel
set_option maxRecDepth 100000 in
theorem dX2_codesLeft_0 : decode cX2_codesLeft 0 = .ok (.iconst 0, 1) := by decide +kernel
set_option maxRecDepth 100000 in
theorem dX2_codesLeft_1 : decode cX2_codesLeft 1 = .ok (.istore_n 1, 1) := by decide +kernel
set_option maxRecDepth 100000 in
theorem dX2_codesLeft_2 : decode cX2_codesLeft 2 = .ok (.iconst 0, 1) := by decide +kernel
set_option maxRecDepth 100000 in
theorem dX2_codesLeft_3 : decode cX2_codesLeft 3 = .ok (.istore_n 2, 1) := by decide +kernel
set_option maxRecDepth 100000 in
theorem dX2_codesLeft_4 : decode cX2_codesLeft 4 = .ok (.iload_n 2, 1) := by decide +kernel
set_option maxRecDepth 100000 in
theorem dX2_codesLeft_5 : decode cX2_codesLeft 5 = .ok (.aload_n 0, 1) := by decide +kernel
set_option maxRecDepth 100000 in
theorem dX2_codesLeft_6 : decode cX2_codesLeft 6 = .ok (.getfield 19, 3) := by decide +kernel
set_option maxRecDepth 100000 in
theorem dX2_codesLeft_9 : decode cX2_codesLeft 9 = .ok (.getfield 57, 3) := by decide +kernel
set_option maxRecDepth 100000 in
theorem dX2_codesLeft_12 : decode cX2_codesLeft 12 = .ok (.if_icmp .ge 21, 3) := by decide +kernel
set_option maxRecDepth 100000 in
theorem dX2_codesLeft_33 : decode cX2_codesLeft 33 = .ok (.iload_n 1, 1) := by decide +kernel
set_option maxRecDepth 100000 in
theorem dX2_codesLeft_34 : decode cX2_codesLeft 34 = .ok (.ireturn, 1) := by decide +kernel
set_option maxRecDepth 100000 in
theorem dX2_bindFrom_0 : decode cX2_bindFrom 0 = .ok (.iload_n 1, 1) := by decide +kernel
set_option maxRecDepth 100000 in
theorem dX2_bindFrom_1 : decode cX2_bindFrom 1 = .ok (.aload_n 0, 1) := by decide +kernel
set_option maxRecDepth 100000 in
theorem dX2_bindFrom_2 : decode cX2_bindFrom 2 = .ok (.getfield 19, 3) := by decide +kernel
set_option maxRecDepth 100000 in
theorem dX2_bindFrom_5 : decode cX2_bindFrom 5 = .ok (.getfield 57, 3) := by decide +kernel
set_option maxRecDepth 100000 in
theorem dX2_bindFrom_8 : decode cX2_bindFrom 8 = .ok (.if_icmp .lt 16, 3) := by decide +kernel
set_option maxRecDepth 100000 in
theorem dX2_bindFrom_11 : decode cX2_bindFrom 11 = .ok (.aload_n 0, 1) := by decide +kernel
set_option maxRecDepth 100000 in
theorem dX2_bindFrom_12 : decode cX2_bindFrom 12 = .ok (.getfield 23, 3) := by decide +kernel
set_option maxRecDepth 100000 in
theorem dX2_bindFrom_15 : decode cX2_bindFrom 15 = .ok (.iload_n 2, 1) := by decide +kernel
set_option maxRecDepth 100000 in
theorem dX2_bindFrom_16 : decode cX2_bindFrom 16 = .ok (.aload_n 0, 1) := by decide +kernel
set_option maxRecDepth 100000 in
theorem dX2_bindFrom_17 : decode cX2_bindFrom 17 = .ok (.getfield 15, 3) := by decide +kernel
set_option maxRecDepth 100000 in
theorem dX2_bindFrom_20 : decode cX2_bindFrom 20 = .ok (.invokevirtual 99, 3) := by decide +kernel
set_option maxRecDepth 100000 in
theorem dX2_bindFrom_23 : decode cX2_bindFrom 23 = .ok (.return_, 1) := by decide +kernel
set_option maxRecDepth 100000 in
theorem dX2_linkAll_0 : decode cX2_linkAll 0 = .ok (.iconst 0, 1) := by decide +kernel
set_option maxRecDepth 100000 in
theorem dX2_linkAll_1 : decode cX2_linkAll 1 = .ok (.istore_n 1, 1) := by decide +kernel
set_option maxRecDepth 100000 in
theorem dX2_linkAll_2 : decode cX2_linkAll 2 = .ok (.iload_n 1, 1) := by decide +kernel
set_option maxRecDepth 100000 in
theorem dX2_linkAll_3 : decode cX2_linkAll 3 = .ok (.aload_n 0, 1) := by decide +kernel
set_option maxRecDepth 100000 in
theorem dX2_linkAll_4 : decode cX2_linkAll 4 = .ok (.getfield 23, 3) := by decide +kernel
set_option maxRecDepth 100000 in
theorem dX2_linkAll_7 : decode cX2_linkAll 7 = .ok (.getfield 32, 3) := by decide +kernel
set_option maxRecDepth 100000 in
theorem dX2_linkAll_10 : decode cX2_linkAll 10 = .ok (.if_icmp .ge 58, 3) := by decide +kernel
set_option maxRecDepth 100000 in
theorem dX2_linkAll_13 : decode cX2_linkAll 13 = .ok (.aload_n 0, 1) := by decide +kernel
set_option maxRecDepth 100000 in
theorem dX2_linkAll_14 : decode cX2_linkAll 14 = .ok (.iload_n 1, 1) := by decide +kernel
set_option maxRecDepth 100000 in
theorem dX2_linkAll_15 : decode cX2_linkAll 15 = .ok (.invokevirtual 39, 3) := by decide +kernel
set_option maxRecDepth 100000 in
theorem dX2_linkAll_18 : decode cX2_linkAll 18 = .ok (.aload_n 0, 1) := by decide +kernel
set_option maxRecDepth 100000 in
theorem dX2_linkAll_19 : decode cX2_linkAll 19 = .ok (.getfield 23, 3) := by decide +kernel
set_option maxRecDepth 100000 in
theorem dX2_linkAll_22 : decode cX2_linkAll 22 = .ok (.iload_n 1, 1) := by decide +kernel
set_option maxRecDepth 100000 in
theorem dX2_linkAll_23 : decode cX2_linkAll 23 = .ok (.invokevirtual 166, 3) := by decide +kernel
set_option maxRecDepth 100000 in
theorem dX2_linkAll_26 : decode cX2_linkAll 26 = .ok (.iconst 0, 1) := by decide +kernel
set_option maxRecDepth 100000 in
theorem dX2_linkAll_27 : decode cX2_linkAll 27 = .ok (.istore_n 2, 1) := by decide +kernel
set_option maxRecDepth 100000 in
theorem dX2_linkAll_28 : decode cX2_linkAll 28 = .ok (.iload_n 2, 1) := by decide +kernel
set_option maxRecDepth 100000 in
theorem dX2_linkAll_29 : decode cX2_linkAll 29 = .ok (.aload_n 0, 1) := by decide +kernel
set_option maxRecDepth 100000 in
theorem dX2_linkAll_30 : decode cX2_linkAll 30 = .ok (.getfield 23, 3) := by decide +kernel
set_option maxRecDepth 100000 in
theorem dX2_linkAll_33 : decode cX2_linkAll 33 = .ok (.getfield 32, 3) := by decide +kernel
set_option maxRecDepth 100000 in
theorem dX2_linkAll_36 : decode cX2_linkAll 36 = .ok (.if_icmp .ge 26, 3) := by decide +kernel
set_option maxRecDepth 100000 in
theorem dX2_linkAll_39 : decode cX2_linkAll 39 = .ok (.aload_n 0, 1) := by decide +kernel
set_option maxRecDepth 100000 in
theorem dX2_linkAll_40 : decode cX2_linkAll 40 = .ok (.iload_n 1, 1) := by decide +kernel
set_option maxRecDepth 100000 in
theorem dX2_linkAll_41 : decode cX2_linkAll 41 = .ok (.iload_n 2, 1) := by decide +kernel
set_option maxRecDepth 100000 in
theorem dX2_linkAll_42 : decode cX2_linkAll 42 = .ok (.invokevirtual 169, 3) := by decide +kernel
set_option maxRecDepth 100000 in
theorem dX2_linkAll_45 : decode cX2_linkAll 45 = .ok (.ifCond .eq 11, 3) := by decide +kernel
set_option maxRecDepth 100000 in
theorem dX2_linkAll_48 : decode cX2_linkAll 48 = .ok (.aload_n 0, 1) := by decide +kernel
set_option maxRecDepth 100000 in
theorem dX2_linkAll_49 : decode cX2_linkAll 49 = .ok (.getfield 23, 3) := by decide +kernel
set_option maxRecDepth 100000 in
theorem dX2_linkAll_52 : decode cX2_linkAll 52 = .ok (.iload_n 2, 1) := by decide +kernel
set_option maxRecDepth 100000 in
theorem dX2_linkAll_53 : decode cX2_linkAll 53 = .ok (.invokevirtual 172, 3) := by decide +kernel
set_option maxRecDepth 100000 in
theorem dX2_linkAll_56 : decode cX2_linkAll 56 = .ok (.iinc 2 1, 3) := by decide +kernel
set_option maxRecDepth 100000 in
theorem dX2_linkAll_59 : decode cX2_linkAll 59 = .ok (.goto (-31), 3) := by decide +kernel
set_option maxRecDepth 100000 in
theorem dX2_linkAll_62 : decode cX2_linkAll 62 = .ok (.iinc 1 1, 3) := by decide +kernel
set_option maxRecDepth 100000 in
theorem dX2_linkAll_65 : decode cX2_linkAll 65 = .ok (.goto (-63), 3) := by decide +kernel
set_option maxRecDepth 100000 in
theorem dX2_linkAll_68 : decode cX2_linkAll 68 = .ok (.aload_n 0, 1) := by decide +kernel
set_option maxRecDepth 100000 in
theorem dX2_linkAll_69 : decode cX2_linkAll 69 = .ok (.getfield 23, 3) := by decide +kernel
set_option maxRecDepth 100000 in
theorem dX2_linkAll_72 : decode cX2_linkAll 72 = .ok (.invokevirtual 175, 3) := by decide +kernel
set_option maxRecDepth 100000 in
theorem dX2_linkAll_75 : decode cX2_linkAll 75 = .ok (.return_, 1) := by decide +kernel
set_option maxRecDepth 100000 in
theorem dX2_canFollow_0 : decode cX2_canFollow 0 = .ok (.aload_n 0, 1) := by decide +kernel
set_option maxRecDepth 100000 in
theorem dX2_canFollow_1 : decode cX2_canFollow 1 = .ok (.getfield 23, 3) := by decide +kernel
set_option maxRecDepth 100000 in
theorem dX2_canFollow_4 : decode cX2_canFollow 4 = .ok (.getfield 66, 3) := by decide +kernel
set_option maxRecDepth 100000 in
theorem dX2_canFollow_7 : decode cX2_canFollow 7 = .ok (.iload_n 1, 1) := by decide +kernel
set_option maxRecDepth 100000 in
theorem dX2_canFollow_8 : decode cX2_canFollow 8 = .ok (.baload, 1) := by decide +kernel
set_option maxRecDepth 100000 in
theorem dX2_canFollow_9 : decode cX2_canFollow 9 = .ok (.aload_n 0, 1) := by decide +kernel
set_option maxRecDepth 100000 in
theorem dX2_canFollow_10 : decode cX2_canFollow 10 = .ok (.getfield 23, 3) := by decide +kernel
set_option maxRecDepth 100000 in
theorem dX2_canFollow_13 : decode cX2_canFollow 13 = .ok (.getfield 66, 3) := by decide +kernel
set_option maxRecDepth 100000 in
theorem dX2_canFollow_16 : decode cX2_canFollow 16 = .ok (.iload_n 2, 1) := by decide +kernel
set_option maxRecDepth 100000 in
theorem dX2_canFollow_17 : decode cX2_canFollow 17 = .ok (.baload, 1) := by decide +kernel
set_option maxRecDepth 100000 in
theorem dX2_canFollow_18 : decode cX2_canFollow 18 = .ok (.if_icmp .ne 5, 3) := by decide +kernel
set_option maxRecDepth 100000 in
theorem dX2_canFollow_21 : decode cX2_canFollow 21 = .ok (.iconst 0, 1) := by decide +kernel
set_option maxRecDepth 100000 in
theorem dX2_canFollow_22 : decode cX2_canFollow 22 = .ok (.ireturn, 1) := by decide +kernel
set_option maxRecDepth 100000 in
theorem dX2_canFollow_23 : decode cX2_canFollow 23 = .ok (.aload_n 0, 1) := by decide +kernel
set_option maxRecDepth 100000 in
theorem dX2_canFollow_24 : decode cX2_canFollow 24 = .ok (.getfield 23, 3) := by decide +kernel
set_option maxRecDepth 100000 in
theorem dX2_canFollow_27 : decode cX2_canFollow 27 = .ok (.getfield 70, 3) := by decide +kernel
set_option maxRecDepth 100000 in
theorem dX2_canFollow_30 : decode cX2_canFollow 30 = .ok (.iload_n 2, 1) := by decide +kernel
set_option maxRecDepth 100000 in
theorem dX2_canFollow_31 : decode cX2_canFollow 31 = .ok (.iaload, 1) := by decide +kernel
set_option maxRecDepth 100000 in
theorem dX2_canFollow_32 : decode cX2_canFollow 32 = .ok (.istore_n 3, 1) := by decide +kernel
set_option maxRecDepth 100000 in
theorem dX2_canFollow_33 : decode cX2_canFollow 33 = .ok (.aload_n 0, 1) := by decide +kernel
set_option maxRecDepth 100000 in
theorem dX2_canFollow_34 : decode cX2_canFollow 34 = .ok (.getfield 23, 3) := by decide +kernel
set_option maxRecDepth 100000 in
theorem dX2_canFollow_37 : decode cX2_canFollow 37 = .ok (.getfield 66, 3) := by decide +kernel
set_option maxRecDepth 100000 in
theorem dX2_canFollow_40 : decode cX2_canFollow 40 = .ok (.iload_n 2, 1) := by decide +kernel
set_option maxRecDepth 100000 in
theorem dX2_canFollow_41 : decode cX2_canFollow 41 = .ok (.baload, 1) := by decide +kernel
set_option maxRecDepth 100000 in
theorem dX2_canFollow_42 : decode cX2_canFollow 42 = .ok (.ifCond .eq 18, 3) := by decide +kernel
set_option maxRecDepth 100000 in
theorem dX2_canFollow_45 : decode cX2_canFollow 45 = .ok (.aload_n 0, 1) := by decide +kernel
set_option maxRecDepth 100000 in
theorem dX2_canFollow_46 : decode cX2_canFollow 46 = .ok (.getfield 23, 3) := by decide +kernel
set_option maxRecDepth 100000 in
theorem dX2_canFollow_49 : decode cX2_canFollow 49 = .ok (.getfield 70, 3) := by decide +kernel
set_option maxRecDepth 100000 in
theorem dX2_canFollow_52 : decode cX2_canFollow 52 = .ok (.iload_n 1, 1) := by decide +kernel
set_option maxRecDepth 100000 in
theorem dX2_canFollow_53 : decode cX2_canFollow 53 = .ok (.iaload, 1) := by decide +kernel
set_option maxRecDepth 100000 in
theorem dX2_canFollow_54 : decode cX2_canFollow 54 = .ok (.iload_n 3, 1) := by decide +kernel
set_option maxRecDepth 100000 in
theorem dX2_canFollow_55 : decode cX2_canFollow 55 = .ok (.if_icmp .ne 5, 3) := by decide +kernel
set_option maxRecDepth 100000 in
theorem dX2_canFollow_58 : decode cX2_canFollow 58 = .ok (.iconst 0, 1) := by decide +kernel
set_option maxRecDepth 100000 in
theorem dX2_canFollow_59 : decode cX2_canFollow 59 = .ok (.ireturn, 1) := by decide +kernel
set_option maxRecDepth 100000 in
theorem dX2_canFollow_60 : decode cX2_canFollow 60 = .ok (.iconst 0, 1) := by decide +kernel
set_option maxRecDepth 100000 in
theorem dX2_canFollow_61 : decode cX2_canFollow 61 = .ok (.istore 4, 2) := by decide +kernel
set_option maxRecDepth 100000 in
theorem dX2_canFollow_63 : decode cX2_canFollow 63 = .ok (.iload 4, 2) := by decide +kernel
set_option maxRecDepth 100000 in
theorem dX2_canFollow_65 : decode cX2_canFollow 65 = .ok (.aload_n 0, 1) := by decide +kernel
set_option maxRecDepth 100000 in
theorem dX2_canFollow_66 : decode cX2_canFollow 66 = .ok (.getfield 19, 3) := by decide +kernel
set_option maxRecDepth 100000 in
theorem dX2_canFollow_69 : decode cX2_canFollow 69 = .ok (.getfield 57, 3) := by decide +kernel
set_option maxRecDepth 100000 in
theorem dX2_canFollow_72 : decode cX2_canFollow 72 = .ok (.if_icmp .ge 34, 3) := by decide +kernel
set_option maxRecDepth 100000 in
theorem dX2_canFollow_106 : decode cX2_canFollow 106 = .ok (.iconst 1, 1) := by decide +kernel
set_option maxRecDepth 100000 in
theorem dX2_canFollow_107 : decode cX2_canFollow 107 = .ok (.ireturn, 1) := by decide +kernel
set_option maxRecDepth 100000 in
theorem dX3_init_0 : decode cX3_init 0 = .ok (.aload_n 0, 1) := by decide +kernel
set_option maxRecDepth 100000 in
theorem dX3_init_1 : decode cX3_init 1 = .ok (.invokespecial 1, 3) := by decide +kernel
set_option maxRecDepth 100000 in
theorem dX3_init_4 : decode cX3_init 4 = .ok (.aload_n 0, 1) := by decide +kernel
set_option maxRecDepth 100000 in
theorem dX3_init_5 : decode cX3_init 5 = .ok (.new 7, 3) := by decide +kernel
set_option maxRecDepth 100000 in
theorem dX3_init_8 : decode cX3_init 8 = .ok (.dup, 1) := by decide +kernel
set_option maxRecDepth 100000 in
theorem dX3_init_9 : decode cX3_init 9 = .ok (.invokespecial 9, 3) := by decide +kernel
set_option maxRecDepth 100000 in
theorem dX3_init_12 : decode cX3_init 12 = .ok (.putfield 10, 3) := by decide +kernel
set_option maxRecDepth 100000 in
theorem dX3_init_15 : decode cX3_init 15 = .ok (.aload_n 0, 1) := by decide +kernel
set_option maxRecDepth 100000 in
theorem dX3_init_16 : decode cX3_init 16 = .ok (.new 16, 3) := by decide +kernel
set_option maxRecDepth 100000 in
theorem dX3_init_19 : decode cX3_init 19 = .ok (.dup, 1) := by decide +kernel
set_option maxRecDepth 100000 in
theorem dX3_init_20 : decode cX3_init 20 = .ok (.invokespecial 18, 3) := by decide +kernel
set_option maxRecDepth 100000 in
theorem dX3_init_23 : decode cX3_init 23 = .ok (.putfield 19, 3) := by decide +kernel
set_option maxRecDepth 100000 in
theorem dX3_init_26 : decode cX3_init 26 = .ok (.aload_n 0, 1) := by decide +kernel
set_option maxRecDepth 100000 in
theorem dX3_init_27 : decode cX3_init 27 = .ok (.new 23, 3) := by decide +kernel
set_option maxRecDepth 100000 in
theorem dX3_init_30 : decode cX3_init 30 = .ok (.dup, 1) := by decide +kernel
set_option maxRecDepth 100000 in
theorem dX3_init_31 : decode cX3_init 31 = .ok (.aload_n 0, 1) := by decide +kernel
set_option maxRecDepth 100000 in
theorem dX3_init_32 : decode cX3_init 32 = .ok (.getfield 10, 3) := by decide +kernel
set_option maxRecDepth 100000 in
theorem dX3_init_35 : decode cX3_init 35 = .ok (.aload_n 0, 1) := by decide +kernel
set_option maxRecDepth 100000 in
theorem dX3_init_36 : decode cX3_init 36 = .ok (.getfield 19, 3) := by decide +kernel
set_option maxRecDepth 100000 in
theorem dX3_init_39 : decode cX3_init 39 = .ok (.invokespecial 25, 3) := by decide +kernel
set_option maxRecDepth 100000 in
theorem dX3_init_42 : decode cX3_init 42 = .ok (.putfield 28, 3) := by decide +kernel
set_option maxRecDepth 100000 in
theorem dX3_init_45 : decode cX3_init 45 = .ok (.aload_n 0, 1) := by decide +kernel
set_option maxRecDepth 100000 in
theorem dX3_init_46 : decode cX3_init 46 = .ok (.iconst 0, 1) := by decide +kernel
set_option maxRecDepth 100000 in
theorem dX3_init_47 : decode cX3_init 47 = .ok (.putfield 32, 3) := by decide +kernel
set_option maxRecDepth 100000 in
theorem dX3_init_50 : decode cX3_init 50 = .ok (.return_, 1) := by decide +kernel
set_option maxRecDepth 100000 in
theorem dX3_addVariable_0 : decode cX3_addVariable 0 = .ok (.iload_n 1, 1) := by decide +kernel
set_option maxRecDepth 100000 in
theorem dX3_addVariable_1 : decode cX3_addVariable 1 = .ok (.iconst 2, 1) := by decide +kernel
set_option maxRecDepth 100000 in
theorem dX3_addVariable_2 : decode cX3_addVariable 2 = .ok (.if_icmp .lt 8, 3) := by decide +kernel
set_option maxRecDepth 100000 in
theorem dX3_addVariable_5 : decode cX3_addVariable 5 = .ok (.iload_n 1, 1) := by decide +kernel
set_option maxRecDepth 100000 in
theorem dX3_addVariable_6 : decode cX3_addVariable 6 = .ok (.iconst 4, 1) := by decide +kernel
set_option maxRecDepth 100000 in
theorem dX3_addVariable_7 : decode cX3_addVariable 7 = .ok (.if_icmp .le 13, 3) := by decide +kernel
set_option maxRecDepth 100000 in
theorem dX3_addVariable_10 : decode cX3_addVariable 10 = .ok (.new 36, 3) := by decide +kernel
set_option maxRecDepth 100000 in
theorem dX3_addVariable_13 : decode cX3_addVariable 13 = .ok (.dup, 1) := by decide +kernel
set_option maxRecDepth 100000 in
theorem dX3_addVariable_14 : decode cX3_addVariable 14 = .ok (.ldc 38, 2) := by decide +kernel
set_option maxRecDepth 100000 in
theorem dX3_addVariable_16 : decode cX3_addVariable 16 = .ok (.invokespecial 40, 3) := by decide +kernel
set_option maxRecDepth 100000 in
theorem dX3_addVariable_19 : decode cX3_addVariable 19 = .ok (.athrow, 1) := by decide +kernel
set_option maxRecDepth 100000 in
theorem dX3_addVariable_20 : decode cX3_addVariable 20 = .ok (.iload_n 2, 1) := by decide +kernel
set_option maxRecDepth 100000 in
theorem dX3_addVariable_21 : decode cX3_addVariable 21 = .ok (.ifCond .lt 8, 3) := by decide +kernel
set_option maxRecDepth 100000 in
theorem dX3_addVariable_24 : decode cX3_addVariable 24 = .ok (.iload_n 2, 1) := by decide +kernel
set_option maxRecDepth 100000 in
theorem dX3_addVariable_25 : decode cX3_addVariable 25 = .ok (.iload_n 1, 1) := by decide +kernel
set_option maxRecDepth 100000 in
theorem dX3_addVariable_26 : decode cX3_addVariable 26 = .ok (.if_icmp .lt 13, 3) := by decide +kernel
set_option maxRecDepth 100000 in
theorem dX3_addVariable_29 : decode cX3_addVariable 29 = .ok (.new 36, 3) := by decide +kernel
set_option maxRecDepth 100000 in
theorem dX3_addVariable_32 : decode cX3_addVariable 32 = .ok (.dup, 1) := by decide +kernel
set_option maxRecDepth 100000 in
theorem dX3_addVariable_33 : decode cX3_addVariable 33 = .ok (.ldc 43, 2) := by decide +kernel
set_option maxRecDepth 100000 in
theorem dX3_addVariable_35 : decode cX3_addVariable 35 = .ok (.invokespecial 40, 3) := by decide +kernel
set_option maxRecDepth 100000 in
theorem dX3_addVariable_38 : decode cX3_addVariable 38 = .ok (.athrow, 1) := by decide +kernel
set_option maxRecDepth 100000 in
theorem dX3_addVariable_39 : decode cX3_addVariable 39 = .ok (.aload_n 0, 1) := by decide +kernel
set_option maxRecDepth 100000 in
theorem dX3_addVariable_40 : decode cX3_addVariable 40 = .ok (.getfield 10, 3) := by decide +kernel
set_option maxRecDepth 100000 in
theorem dX3_addVariable_43 : decode cX3_addVariable 43 = .ok (.getfield 45, 3) := by decide +kernel
set_option maxRecDepth 100000 in
theorem dX3_addVariable_46 : decode cX3_addVariable 46 = .ok (.iconst 4, 1) := by decide +kernel
set_option maxRecDepth 100000 in
theorem dX3_addVariable_47 : decode cX3_addVariable 47 = .ok (.if_icmp .lt 13, 3) := by decide +kernel
set_option maxRecDepth 100000 in
theorem dX3_addVariable_60 : decode cX3_addVariable 60 = .ok (.aload_n 0, 1) := by decide +kernel
set_option maxRecDepth 100000 in
theorem dX3_addVariable_61 : decode cX3_addVariable 61 = .ok (.iconst 0, 1) := by decide +kernel
set_option maxRecDepth 100000 in
theorem dX3_addVariable_62 : decode cX3_addVariable 62 = .ok (.putfield 32, 3) := by decide +kernel
set_option maxRecDepth 100000 in
theorem dX3_addVariable_65 : decode cX3_addVariable 65 = .ok (.aload_n 0, 1) := by decide +kernel
set_option maxRecDepth 100000 in
theorem dX3_addVariable_66 : decode cX3_addVariable 66 = .ok (.getfield 10, 3) := by decide +kernel
set_option maxRecDepth 100000 in
theorem dX3_addVariable_69 : decode cX3_addVariable 69 = .ok (.iload_n 1, 1) := by decide +kernel
set_option maxRecDepth 100000 in
theorem dX3_addVariable_70 : decode cX3_addVariable 70 = .ok (.iload_n 2, 1) := by decide +kernel
set_option maxRecDepth 100000 in
theorem dX3_addVariable_71 : decode cX3_addVariable 71 = .ok (.invokevirtual 54, 3) := by decide +kernel
set_option maxRecDepth 100000 in
theorem dX3_addVariable_74 : decode cX3_addVariable 74 = .ok (.ireturn, 1) := by decide +kernel
set_option maxRecDepth 100000 in
theorem dX3_addConstraint_0 : decode cX3_addConstraint 0 = .ok (.iload_n 1, 1) := by decide +kernel
set_option maxRecDepth 100000 in
theorem dX3_addConstraint_1 : decode cX3_addConstraint 1 = .ok (.ifCond .lt 8, 3) := by decide +kernel
set_option maxRecDepth 100000 in
theorem dX3_addConstraint_4 : decode cX3_addConstraint 4 = .ok (.iload_n 1, 1) := by decide +kernel
set_option maxRecDepth 100000 in
theorem dX3_addConstraint_5 : decode cX3_addConstraint 5 = .ok (.iconst 5, 1) := by decide +kernel
set_option maxRecDepth 100000 in
theorem dX3_addConstraint_6 : decode cX3_addConstraint 6 = .ok (.if_icmp .le 13, 3) := by decide +kernel
set_option maxRecDepth 100000 in
theorem dX3_addConstraint_9 : decode cX3_addConstraint 9 = .ok (.new 36, 3) := by decide +kernel
set_option maxRecDepth 100000 in
theorem dX3_addConstraint_12 : decode cX3_addConstraint 12 = .ok (.dup, 1) := by decide +kernel
set_option maxRecDepth 100000 in
theorem dX3_addConstraint_13 : decode cX3_addConstraint 13 = .ok (.ldc 58, 2) := by decide +kernel
set_option maxRecDepth 100000 in
theorem dX3_addConstraint_15 : decode cX3_addConstraint 15 = .ok (.invokespecial 40, 3) := by decide +kernel
set_option maxRecDepth 100000 in
theorem dX3_addConstraint_18 : decode cX3_addConstraint 18 = .ok (.athrow, 1) := by decide +kernel
set_option maxRecDepth 100000 in
theorem dX3_addConstraint_19 : decode cX3_addConstraint 19 = .ok (.iload_n 1, 1) := by decide +kernel
set_option maxRecDepth 100000 in
theorem dX3_addConstraint_20 : decode cX3_addConstraint 20 = .ok (.iconst 4, 1) := by decide +kernel
set_option maxRecDepth 100000 in
theorem dX3_addConstraint_21 : decode cX3_addConstraint 21 = .ok (.if_icmp .ne 7, 3) := by decide +kernel
set_option maxRecDepth 100000 in
theorem dX3_addConstraint_24 : decode cX3_addConstraint 24 = .ok (.iload_n 2, 1) := by decide +kernel
set_option maxRecDepth 100000 in
theorem dX3_addConstraint_25 : decode cX3_addConstraint 25 = .ok (.goto 4, 3) := by decide +kernel
set_option maxRecDepth 100000 in
theorem dX3_addConstraint_28 : decode cX3_addConstraint 28 = .ok (.iload_n 3, 1) := by decide +kernel
set_option maxRecDepth 100000 in
theorem dX3_addConstraint_29 : decode cX3_addConstraint 29 = .ok (.istore 5, 2) := by decide +kernel
set_option maxRecDepth 100000 in
theorem dX3_addConstraint_31 : decode cX3_addConstraint 31 = .ok (.iload_n 1, 1) := by decide +kernel
set_option maxRecDepth 100000 in
theorem dX3_addConstraint_32 : decode cX3_addConstraint 32 = .ok (.iconst 3, 1) := by decide +kernel
set_option maxRecDepth 100000 in
theorem dX3_addConstraint_33 : decode cX3_addConstraint 33 = .ok (.if_icmp .ne 8, 3) := by decide +kernel
set_option maxRecDepth 100000 in
theorem dX3_addConstraint_36 : decode cX3_addConstraint 36 = .ok (.iload 4, 2) := by decide +kernel
set_option maxRecDepth 100000 in
theorem dX3_addConstraint_38 : decode cX3_addConstraint 38 = .ok (.goto 4, 3) := by decide +kernel
set_option maxRecDepth 100000 in
theorem dX3_addConstraint_41 : decode cX3_addConstraint 41 = .ok (.iload_n 2, 1) := by decide +kernel
set_option maxRecDepth 100000 in
theorem dX3_addConstraint_42 : decode cX3_addConstraint 42 = .ok (.istore 6, 2) := by decide +kernel
set_option maxRecDepth 100000 in
theorem dX3_addConstraint_44 : decode cX3_addConstraint 44 = .ok (.aload_n 0, 1) := by decide +kernel
set_option maxRecDepth 100000 in
theorem dX3_addConstraint_45 : decode cX3_addConstraint 45 = .ok (.iload_n 2, 1) := by decide +kernel
set_option maxRecDepth 100000 in
theorem dX3_addConstraint_46 : decode cX3_addConstraint 46 = .ok (.invokevirtual 60, 3) := by decide +kernel
set_option maxRecDepth 100000 in
theorem dX3_dropConstraint_0 : decode cX3_dropConstraint 0 = .ok (.aload_n 0, 1) := by decide +kernel
set_option maxRecDepth 100000 in
theorem dX3_dropConstraint_1 : decode cX3_dropConstraint 1 = .ok (.getfield 10, 3) := by decide +kernel
set_option maxRecDepth 100000 in
theorem dX3_dropConstraint_4 : decode cX3_dropConstraint 4 = .ok (.getfield 64, 3) := by decide +kernel
set_option maxRecDepth 100000 in
theorem dX3_dropConstraint_7 : decode cX3_dropConstraint 7 = .ok (.ifCond .gt 13, 3) := by decide +kernel
set_option maxRecDepth 100000 in
theorem dX3_dropConstraint_10 : decode cX3_dropConstraint 10 = .ok (.new 49, 3) := by decide +kernel
set_option maxRecDepth 100000 in
theorem dX3_dropConstraint_13 : decode cX3_dropConstraint 13 = .ok (.dup, 1) := by decide +kernel
set_option maxRecDepth 100000 in
theorem dX3_dropConstraint_14 : decode cX3_dropConstraint 14 = .ok (.ldc 73, 2) := by decide +kernel
set_option maxRecDepth 100000 in
theorem dX3_dropConstraint_16 : decode cX3_dropConstraint 16 = .ok (.invokespecial 53, 3) := by decide +kernel
set_option maxRecDepth 100000 in
theorem dX3_dropConstraint_19 : decode cX3_dropConstraint 19 = .ok (.athrow, 1) := by decide +kernel
set_option maxRecDepth 100000 in
theorem dX3_give_0 : decode cX3_give 0 = .ok (.aload_n 0, 1) := by decide +kernel
set_option maxRecDepth 100000 in
theorem dX3_give_1 : decode cX3_give 1 = .ok (.iload_n 1, 1) := by decide +kernel
set_option maxRecDepth 100000 in
theorem dX3_give_2 : decode cX3_give 2 = .ok (.invokevirtual 60, 3) := by decide +kernel
set_option maxRecDepth 100000 in
theorem dX3_open_0 : decode cX3_open 0 = .ok (.aload_n 0, 1) := by decide +kernel
set_option maxRecDepth 100000 in
theorem dX3_open_1 : decode cX3_open 1 = .ok (.iconst 0, 1) := by decide +kernel
set_option maxRecDepth 100000 in
theorem dX3_open_2 : decode cX3_open 2 = .ok (.putfield 32, 3) := by decide +kernel
set_option maxRecDepth 100000 in
theorem dX3_open_5 : decode cX3_open 5 = .ok (.iconst 0, 1) := by decide +kernel
set_option maxRecDepth 100000 in
theorem dX3_open_6 : decode cX3_open 6 = .ok (.istore_n 1, 1) := by decide +kernel
set_option maxRecDepth 100000 in
theorem dX3_open_7 : decode cX3_open 7 = .ok (.iconst 0, 1) := by decide +kernel
set_option maxRecDepth 100000 in
theorem dX3_open_8 : decode cX3_open 8 = .ok (.istore_n 2, 1) := by decide +kernel
set_option maxRecDepth 100000 in
theorem dX3_open_9 : decode cX3_open 9 = .ok (.iload_n 2, 1) := by decide +kernel
set_option maxRecDepth 100000 in
theorem dX3_open_10 : decode cX3_open 10 = .ok (.aload_n 0, 1) := by decide +kernel
set_option maxRecDepth 100000 in
theorem dX3_open_11 : decode cX3_open 11 = .ok (.getfield 10, 3) := by decide +kernel
set_option maxRecDepth 100000 in
theorem dX3_open_14 : decode cX3_open 14 = .ok (.getfield 45, 3) := by decide +kernel
set_option maxRecDepth 100000 in
theorem dX3_open_17 : decode cX3_open 17 = .ok (.if_icmp .ge 25, 3) := by decide +kernel
set_option maxRecDepth 100000 in
theorem dX3_open_42 : decode cX3_open 42 = .ok (.iload_n 1, 1) := by decide +kernel
set_option maxRecDepth 100000 in
theorem dX3_open_43 : decode cX3_open 43 = .ok (.ireturn, 1) := by decide +kernel
set_option maxRecDepth 100000 in
theorem dX3_variableCount_0 : decode cX3_variableCount 0 = .ok (.aload_n 0, 1) := by decide +kernel
set_option maxRecDepth 100000 in
theorem dX3_variableCount_1 : decode cX3_variableCount 1 = .ok (.getfield 10, 3) := by decide +kernel
set_option maxRecDepth 100000 in
theorem dX3_variableCount_4 : decode cX3_variableCount 4 = .ok (.getfield 45, 3) := by decide +kernel
set_option maxRecDepth 100000 in
theorem dX3_variableCount_7 : decode cX3_variableCount 7 = .ok (.ireturn, 1) := by decide +kernel
set_option maxRecDepth 100000 in
theorem dX3_sign_0 : decode cX3_sign 0 = .ok (.aload_n 0, 1) := by decide +kernel
set_option maxRecDepth 100000 in
theorem dX3_sign_1 : decode cX3_sign 1 = .ok (.iload_n 1, 1) := by decide +kernel
set_option maxRecDepth 100000 in
theorem dX3_sign_2 : decode cX3_sign 2 = .ok (.invokevirtual 60, 3) := by decide +kernel
set_option maxRecDepth 100000 in
theorem dX3_explore_0 : decode cX3_explore 0 = .ok (.aload_n 0, 1) := by decide +kernel
set_option maxRecDepth 100000 in
theorem dX3_explore_1 : decode cX3_explore 1 = .ok (.getfield 32, 3) := by decide +kernel
set_option maxRecDepth 100000 in
theorem dX3_explore_4 : decode cX3_explore 4 = .ok (.ifCond .ne 15, 3) := by decide +kernel
set_option maxRecDepth 100000 in
theorem dX3_explore_7 : decode cX3_explore 7 = .ok (.aload_n 0, 1) := by decide +kernel
set_option maxRecDepth 100000 in
theorem dX3_explore_8 : decode cX3_explore 8 = .ok (.getfield 28, 3) := by decide +kernel
set_option maxRecDepth 100000 in
theorem dX3_explore_11 : decode cX3_explore 11 = .ok (.invokevirtual 89, 3) := by decide +kernel
set_option maxRecDepth 100000 in
theorem dX3_explore_14 : decode cX3_explore 14 = .ok (.aload_n 0, 1) := by decide +kernel
set_option maxRecDepth 100000 in
theorem dX3_explore_15 : decode cX3_explore 15 = .ok (.iconst 1, 1) := by decide +kernel
set_option maxRecDepth 100000 in
theorem dX3_explore_16 : decode cX3_explore 16 = .ok (.putfield 32, 3) := by decide +kernel
set_option maxRecDepth 100000 in
theorem dX3_explore_19 : decode cX3_explore 19 = .ok (.aload_n 0, 1) := by decide +kernel
set_option maxRecDepth 100000 in
theorem dX3_explore_20 : decode cX3_explore 20 = .ok (.getfield 19, 3) := by decide +kernel
set_option maxRecDepth 100000 in
theorem dX3_explore_23 : decode cX3_explore 23 = .ok (.getfield 92, 3) := by decide +kernel
set_option maxRecDepth 100000 in
theorem dX3_explore_26 : decode cX3_explore 26 = .ok (.ireturn, 1) := by decide +kernel
set_option maxRecDepth 100000 in
theorem dX3_isExplored_0 : decode cX3_isExplored 0 = .ok (.aload_n 0, 1) := by decide +kernel
set_option maxRecDepth 100000 in
theorem dX3_isExplored_1 : decode cX3_isExplored 1 = .ok (.getfield 32, 3) := by decide +kernel
set_option maxRecDepth 100000 in
theorem dX3_isExplored_4 : decode cX3_isExplored 4 = .ok (.ireturn, 1) := by decide +kernel
set_option maxRecDepth 100000 in
theorem dX3_isComplete_0 : decode cX3_isComplete 0 = .ok (.aload_n 0, 1) := by decide +kernel
set_option maxRecDepth 100000 in
theorem dX3_isComplete_1 : decode cX3_isComplete 1 = .ok (.invokevirtual 95, 3) := by decide +kernel
set_option maxRecDepth 100000 in
theorem dX3_firstCount_0 : decode cX3_firstCount 0 = .ok (.aload_n 0, 1) := by decide +kernel
set_option maxRecDepth 100000 in
theorem dX3_firstCount_1 : decode cX3_firstCount 1 = .ok (.invokevirtual 95, 3) := by decide +kernel
set_option maxRecDepth 100000 in
theorem dX3_value_0 : decode cX3_value 0 = .ok (.aload_n 0, 1) := by decide +kernel
set_option maxRecDepth 100000 in
theorem dX3_value_1 : decode cX3_value 1 = .ok (.invokevirtual 95, 3) := by decide +kernel
set_option maxRecDepth 100000 in
theorem dX3_direction_0 : decode cX3_direction 0 = .ok (.aload_n 0, 1) := by decide +kernel
set_option maxRecDepth 100000 in
theorem dX3_direction_1 : decode cX3_direction 1 = .ok (.invokevirtual 95, 3) := by decide +kernel
set_option maxRecDepth 100000 in
theorem dX3_isInstant_0 : decode cX3_isInstant 0 = .ok (.aload_n 0, 1) := by decide +kernel
set_option maxRecDepth 100000 in
theorem dX3_isInstant_1 : decode cX3_isInstant 1 = .ok (.invokevirtual 95, 3) := by decide +kernel
set_option maxRecDepth 100000 in
theorem dX3_successorCount_0 : decode cX3_successorCount 0 = .ok (.aload_n 0, 1) := by decide +kernel
set_option maxRecDepth 100000 in
theorem dX3_successorCount_1 : decode cX3_successorCount 1 = .ok (.invokevirtual 95, 3) := by decide +kernel
set_option maxRecDepth 100000 in
theorem dX3_successor_0 : decode cX3_successor 0 = .ok (.aload_n 0, 1) := by decide +kernel
set_option maxRecDepth 100000 in
theorem dX3_successor_1 : decode cX3_successor 1 = .ok (.invokevirtual 95, 3) := by decide +kernel
set_option maxRecDepth 100000 in
theorem dX3_distance_0 : decode cX3_distance 0 = .ok (.aload_n 0, 1) := by decide +kernel
set_option maxRecDepth 100000 in
theorem dX3_distance_1 : decode cX3_distance 1 = .ok (.invokevirtual 95, 3) := by decide +kernel
set_option maxRecDepth 100000 in
theorem dX3_isAtRest_0 : decode cX3_isAtRest 0 = .ok (.aload_n 0, 1) := by decide +kernel
set_option maxRecDepth 100000 in
theorem dX3_isAtRest_1 : decode cX3_isAtRest 1 = .ok (.invokevirtual 95, 3) := by decide +kernel
set_option maxRecDepth 100000 in
theorem dX3_endCount_0 : decode cX3_endCount 0 = .ok (.aload_n 0, 1) := by decide +kernel
set_option maxRecDepth 100000 in
theorem dX3_endCount_1 : decode cX3_endCount 1 = .ok (.invokevirtual 95, 3) := by decide +kernel
set_option maxRecDepth 100000 in
theorem dX3_soonest_0 : decode cX3_soonest 0 = .ok (.aload_n 0, 1) := by decide +kernel
set_option maxRecDepth 100000 in
theorem dX3_soonest_1 : decode cX3_soonest 1 = .ok (.invokevirtual 95, 3) := by decide +kernel
set_option maxRecDepth 100000 in
theorem dX3_hasCycle_0 : decode cX3_hasCycle 0 = .ok (.aload_n 0, 1) := by decide +kernel
set_option maxRecDepth 100000 in
theorem dX3_hasCycle_1 : decode cX3_hasCycle 1 = .ok (.invokevirtual 95, 3) := by decide +kernel
set_option maxRecDepth 100000 in
theorem dX3_ways_0 : decode cX3_ways 0 = .ok (.aload_n 0, 1) := by decide +kernel
set_option maxRecDepth 100000 in
theorem dX3_ways_1 : decode cX3_ways 1 = .ok (.invokevirtual 95, 3) := by decide +kernel
set_option maxRecDepth 100000 in
theorem dX3_rest_0 : decode cX3_rest 0 = .ok (.aload_n 0, 1) := by decide +kernel
set_option maxRecDepth 100000 in
theorem dX3_rest_1 : decode cX3_rest 1 = .ok (.invokevirtual 95, 3) := by decide +kernel
set_option maxRecDepth 100000 in
theorem dX3_digest_0 : decode cX3_digest 0 = .ok (.ldc2_w 155, 3) := by decide +kernel
set_option maxRecDepth 100000 in
theorem dX3_digest_3 : decode cX3_digest 3 = .ok (.lstore_n 1, 1) := by decide +kernel
set_option maxRecDepth 100000 in
theorem dX3_digest_4 : decode cX3_digest 4 = .ok (.lload_n 1, 1) := by decide +kernel
set_option maxRecDepth 100000 in
theorem dX3_digest_5 : decode cX3_digest 5 = .ok (.ldc2_w 157, 3) := by decide +kernel
set_option maxRecDepth 100000 in
theorem dX3_digest_8 : decode cX3_digest 8 = .ok (.lmul, 1) := by decide +kernel
set_option maxRecDepth 100000 in
theorem dX3_digest_9 : decode cX3_digest 9 = .ok (.aload_n 0, 1) := by decide +kernel
set_option maxRecDepth 100000 in
theorem dX3_digest_10 : decode cX3_digest 10 = .ok (.getfield 10, 3) := by decide +kernel
set_option maxRecDepth 100000 in
theorem dX3_digest_13 : decode cX3_digest 13 = .ok (.getfield 45, 3) := by decide +kernel
set_option maxRecDepth 100000 in
theorem dX3_digest_16 : decode cX3_digest 16 = .ok (.i2l, 1) := by decide +kernel
set_option maxRecDepth 100000 in
theorem dX3_digest_17 : decode cX3_digest 17 = .ok (.ladd, 1) := by decide +kernel
set_option maxRecDepth 100000 in
theorem dX3_digest_18 : decode cX3_digest 18 = .ok (.lstore_n 1, 1) := by decide +kernel
set_option maxRecDepth 100000 in
theorem dX3_digest_19 : decode cX3_digest 19 = .ok (.iconst 0, 1) := by decide +kernel
set_option maxRecDepth 100000 in
theorem dX3_digest_20 : decode cX3_digest 20 = .ok (.istore_n 3, 1) := by decide +kernel
set_option maxRecDepth 100000 in
theorem dX3_digest_21 : decode cX3_digest 21 = .ok (.iload_n 3, 1) := by decide +kernel
set_option maxRecDepth 100000 in
theorem dX3_digest_22 : decode cX3_digest 22 = .ok (.aload_n 0, 1) := by decide +kernel
set_option maxRecDepth 100000 in
theorem dX3_digest_23 : decode cX3_digest 23 = .ok (.getfield 10, 3) := by decide +kernel
set_option maxRecDepth 100000 in
theorem dX3_digest_26 : decode cX3_digest 26 = .ok (.getfield 45, 3) := by decide +kernel
set_option maxRecDepth 100000 in
theorem dX3_digest_29 : decode cX3_digest 29 = .ok (.if_icmp .ge 77, 3) := by decide +kernel
set_option maxRecDepth 100000 in
theorem dX3_digest_106 : decode cX3_digest 106 = .ok (.lload_n 1, 1) := by decide +kernel
set_option maxRecDepth 100000 in
theorem dX3_digest_107 : decode cX3_digest 107 = .ok (.ldc2_w 157, 3) := by decide +kernel
set_option maxRecDepth 100000 in
theorem dX3_digest_110 : decode cX3_digest 110 = .ok (.lmul, 1) := by decide +kernel
set_option maxRecDepth 100000 in
theorem dX3_digest_111 : decode cX3_digest 111 = .ok (.aload_n 0, 1) := by decide +kernel
set_option maxRecDepth 100000 in
theorem dX3_digest_112 : decode cX3_digest 112 = .ok (.getfield 10, 3) := by decide +kernel
set_option maxRecDepth 100000 in
theorem dX3_digest_115 : decode cX3_digest 115 = .ok (.getfield 64, 3) := by decide +kernel
set_option maxRecDepth 100000 in
theorem dX3_digest_118 : decode cX3_digest 118 = .ok (.i2l, 1) := by decide +kernel
set_option maxRecDepth 100000 in
theorem dX3_digest_119 : decode cX3_digest 119 = .ok (.ladd, 1) := by decide +kernel
set_option maxRecDepth 100000 in
theorem dX3_digest_120 : decode cX3_digest 120 = .ok (.lstore_n 1, 1) := by decide +kernel
set_option maxRecDepth 100000 in
theorem dX3_digest_121 : decode cX3_digest 121 = .ok (.iconst 0, 1) := by decide +kernel
set_option maxRecDepth 100000 in
theorem dX3_digest_122 : decode cX3_digest 122 = .ok (.istore_n 3, 1) := by decide +kernel
set_option maxRecDepth 100000 in
theorem dX3_digest_123 : decode cX3_digest 123 = .ok (.iload_n 3, 1) := by decide +kernel
set_option maxRecDepth 100000 in
theorem dX3_digest_124 : decode cX3_digest 124 = .ok (.aload_n 0, 1) := by decide +kernel
set_option maxRecDepth 100000 in
theorem dX3_digest_125 : decode cX3_digest 125 = .ok (.getfield 10, 3) := by decide +kernel
set_option maxRecDepth 100000 in
theorem dX3_digest_128 : decode cX3_digest 128 = .ok (.getfield 64, 3) := by decide +kernel
set_option maxRecDepth 100000 in
theorem dX3_digest_131 : decode cX3_digest 131 = .ok (.if_icmp .ge 26, 3) := by decide +kernel
set_option maxRecDepth 100000 in
theorem dX3_digest_157 : decode cX3_digest 157 = .ok (.aload_n 0, 1) := by decide +kernel
set_option maxRecDepth 100000 in
theorem dX3_digest_158 : decode cX3_digest 158 = .ok (.getfield 32, 3) := by decide +kernel
set_option maxRecDepth 100000 in
theorem dX3_digest_161 : decode cX3_digest 161 = .ok (.ifCond .eq 11, 3) := by decide +kernel
set_option maxRecDepth 100000 in
theorem dX3_digest_172 : decode cX3_digest 172 = .ok (.lload_n 1, 1) := by decide +kernel
set_option maxRecDepth 100000 in
theorem dX3_digest_173 : decode cX3_digest 173 = .ok (.lreturn, 1) := by decide +kernel
set_option maxRecDepth 100000 in
theorem dX3_requireExploration_0 : decode cX3_requireExploration 0 = .ok (.aload_n 0, 1) := by decide +kernel
set_option maxRecDepth 100000 in
theorem dX3_requireExploration_1 : decode cX3_requireExploration 1 = .ok (.getfield 32, 3) := by decide +kernel
set_option maxRecDepth 100000 in
theorem dX3_requireExploration_4 : decode cX3_requireExploration 4 = .ok (.ifCond .ne 13, 3) := by decide +kernel
set_option maxRecDepth 100000 in
theorem dX3_requireExploration_7 : decode cX3_requireExploration 7 = .ok (.new 49, 3) := by decide +kernel
set_option maxRecDepth 100000 in
theorem dX3_requireExploration_10 : decode cX3_requireExploration 10 = .ok (.dup, 1) := by decide +kernel
set_option maxRecDepth 100000 in
theorem dX3_requireExploration_11 : decode cX3_requireExploration 11 = .ok (.ldc 175, 2) := by decide +kernel
set_option maxRecDepth 100000 in
theorem dX3_requireExploration_13 : decode cX3_requireExploration 13 = .ok (.invokespecial 53, 3) := by decide +kernel
set_option maxRecDepth 100000 in
theorem dX3_requireExploration_16 : decode cX3_requireExploration 16 = .ok (.athrow, 1) := by decide +kernel
set_option maxRecDepth 100000 in
theorem dX3_requireVariable_0 : decode cX3_requireVariable 0 = .ok (.iload_n 1, 1) := by decide +kernel
set_option maxRecDepth 100000 in
theorem dX3_requireVariable_1 : decode cX3_requireVariable 1 = .ok (.ifCond .lt 14, 3) := by decide +kernel
set_option maxRecDepth 100000 in
theorem dX3_requireVariable_4 : decode cX3_requireVariable 4 = .ok (.iload_n 1, 1) := by decide +kernel
set_option maxRecDepth 100000 in
theorem dX3_requireVariable_5 : decode cX3_requireVariable 5 = .ok (.aload_n 0, 1) := by decide +kernel
set_option maxRecDepth 100000 in
theorem dX3_requireVariable_6 : decode cX3_requireVariable 6 = .ok (.getfield 10, 3) := by decide +kernel
set_option maxRecDepth 100000 in
theorem dX3_requireVariable_9 : decode cX3_requireVariable 9 = .ok (.getfield 45, 3) := by decide +kernel
set_option maxRecDepth 100000 in
theorem dX3_requireVariable_12 : decode cX3_requireVariable 12 = .ok (.if_icmp .lt 13, 3) := by decide +kernel
set_option maxRecDepth 100000 in
theorem dX3_requireVariable_15 : decode cX3_requireVariable 15 = .ok (.new 127, 3) := by decide +kernel
set_option maxRecDepth 100000 in
theorem dX3_requireVariable_18 : decode cX3_requireVariable 18 = .ok (.dup, 1) := by decide +kernel
set_option maxRecDepth 100000 in
theorem dX3_requireVariable_19 : decode cX3_requireVariable 19 = .ok (.ldc 179, 2) := by decide +kernel
set_option maxRecDepth 100000 in
theorem dX3_requireVariable_21 : decode cX3_requireVariable 21 = .ok (.invokespecial 131, 3) := by decide +kernel
set_option maxRecDepth 100000 in
theorem dX3_requireVariable_24 : decode cX3_requireVariable 24 = .ok (.athrow, 1) := by decide +kernel
set_option maxRecDepth 100000 in
theorem dX3_codeOf_0 : decode cX3_codeOf 0 = .ok (.iconst 3, 1) := by decide +kernel
set_option maxRecDepth 100000 in
theorem dX3_codeOf_1 : decode cX3_codeOf 1 = .ok (.iload_n 0, 1) := by decide +kernel
set_option maxRecDepth 100000 in
theorem dX3_codeOf_2 : decode cX3_codeOf 2 = .ok (.imul, 1) := by decide +kernel
set_option maxRecDepth 100000 in
theorem dX3_codeOf_3 : decode cX3_codeOf 3 = .ok (.iload_n 1, 1) := by decide +kernel
set_option maxRecDepth 100000 in
theorem dX3_codeOf_4 : decode cX3_codeOf 4 = .ok (.iadd, 1) := by decide +kernel
set_option maxRecDepth 100000 in
theorem dX3_codeOf_5 : decode cX3_codeOf 5 = .ok (.iconst 1, 1) := by decide +kernel
set_option maxRecDepth 100000 in
theorem dX3_codeOf_6 : decode cX3_codeOf 6 = .ok (.iadd, 1) := by decide +kernel
set_option maxRecDepth 100000 in
theorem dX3_codeOf_7 : decode cX3_codeOf 7 = .ok (.ireturn, 1) := by decide +kernel
set_option maxRecDepth 100000 in
theorem dX4_init_0 : decode cX4_init 0 = .ok (.aload_n 0, 1) := by decide +kernel
set_option maxRecDepth 100000 in
theorem dX4_init_1 : decode cX4_init 1 = .ok (.invokespecial 1, 3) := by decide +kernel
set_option maxRecDepth 100000 in
theorem dX4_init_4 : decode cX4_init 4 = .ok (.aload_n 0, 1) := by decide +kernel
set_option maxRecDepth 100000 in
theorem dX4_init_5 : decode cX4_init 5 = .ok (.iconst 4, 1) := by decide +kernel
set_option maxRecDepth 100000 in
theorem dX4_init_6 : decode cX4_init 6 = .ok (.newarray .int, 2) := by decide +kernel
set_option maxRecDepth 100000 in
theorem dX4_init_8 : decode cX4_init 8 = .ok (.putfield 9, 3) := by decide +kernel
set_option maxRecDepth 100000 in
theorem dX4_init_11 : decode cX4_init 11 = .ok (.aload_n 0, 1) := by decide +kernel
set_option maxRecDepth 100000 in
theorem dX4_init_12 : decode cX4_init 12 = .ok (.iconst 4, 1) := by decide +kernel
set_option maxRecDepth 100000 in
theorem dX4_init_13 : decode cX4_init 13 = .ok (.newarray .int, 2) := by decide +kernel
set_option maxRecDepth 100000 in
theorem dX4_init_15 : decode cX4_init 15 = .ok (.putfield 13, 3) := by decide +kernel
set_option maxRecDepth 100000 in
theorem dX4_init_18 : decode cX4_init 18 = .ok (.aload_n 0, 1) := by decide +kernel
set_option maxRecDepth 100000 in
theorem dX4_init_19 : decode cX4_init 19 = .ok (.iconst 4, 1) := by decide +kernel
set_option maxRecDepth 100000 in
theorem dX4_init_20 : decode cX4_init 20 = .ok (.newarray .int, 2) := by decide +kernel
set_option maxRecDepth 100000 in
theorem dX4_init_22 : decode cX4_init 22 = .ok (.putfield 16, 3) := by decide +kernel
set_option maxRecDepth 100000 in
theorem dX4_init_25 : decode cX4_init 25 = .ok (.aload_n 0, 1) := by decide +kernel
set_option maxRecDepth 100000 in
theorem dX4_init_26 : decode cX4_init 26 = .ok (.iconst 4, 1) := by decide +kernel
set_option maxRecDepth 100000 in
theorem dX4_init_27 : decode cX4_init 27 = .ok (.newarray .int, 2) := by decide +kernel
set_option maxRecDepth 100000 in
theorem dX4_init_29 : decode cX4_init 29 = .ok (.putfield 19, 3) := by decide +kernel
set_option maxRecDepth 100000 in
theorem dX4_init_32 : decode cX4_init 32 = .ok (.aload_n 0, 1) := by decide +kernel
set_option maxRecDepth 100000 in
theorem dX4_init_33 : decode cX4_init 33 = .ok (.bipush 8, 2) := by decide +kernel
set_option maxRecDepth 100000 in
theorem dX4_init_35 : decode cX4_init 35 = .ok (.newarray .int, 2) := by decide +kernel
set_option maxRecDepth 100000 in
theorem dX4_init_37 : decode cX4_init 37 = .ok (.putfield 22, 3) := by decide +kernel
set_option maxRecDepth 100000 in
theorem dX4_init_40 : decode cX4_init 40 = .ok (.aload_n 0, 1) := by decide +kernel
set_option maxRecDepth 100000 in
theorem dX4_init_41 : decode cX4_init 41 = .ok (.bipush 8, 2) := by decide +kernel
set_option maxRecDepth 100000 in
theorem dX4_init_43 : decode cX4_init 43 = .ok (.newarray .int, 2) := by decide +kernel
set_option maxRecDepth 100000 in
theorem dX4_init_45 : decode cX4_init 45 = .ok (.putfield 25, 3) := by decide +kernel
set_option maxRecDepth 100000 in
theorem dX4_init_48 : decode cX4_init 48 = .ok (.aload_n 0, 1) := by decide +kernel
set_option maxRecDepth 100000 in
theorem dX4_init_49 : decode cX4_init 49 = .ok (.bipush 8, 2) := by decide +kernel
set_option maxRecDepth 100000 in
theorem dX4_init_51 : decode cX4_init 51 = .ok (.newarray .int, 2) := by decide +kernel
