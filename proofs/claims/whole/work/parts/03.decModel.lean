theorem dX6_init_0 : decode cX6_init 0 = .ok (.aload_n 0, 1) := by decide +kernel
theorem dX6_init_1 : decode cX6_init 1 = .ok (.invokespecial 1, 3) := by decide +kernel
theorem dX6_init_4 : decode cX6_init 4 = .ok (.aload_n 0, 1) := by decide +kernel
theorem dX6_init_5 : decode cX6_init 5 = .ok (.ldc 7, 2) := by decide +kernel
theorem dX6_init_7 : decode cX6_init 7 = .ok (.newarray .int, 2) := by decide +kernel
theorem dX6_init_9 : decode cX6_init 9 = .ok (.putfield 8, 3) := by decide +kernel
theorem dX6_init_12 : decode cX6_init 12 = .ok (.aload_n 0, 1) := by decide +kernel
theorem dX6_init_13 : decode cX6_init 13 = .ok (.sipush 200, 3) := by decide +kernel
theorem dX6_init_16 : decode cX6_init 16 = .ok (.newarray .long, 2) := by decide +kernel
theorem dX6_init_18 : decode cX6_init 18 = .ok (.putfield 14, 3) := by decide +kernel
theorem dX6_init_21 : decode cX6_init 21 = .ok (.aload_n 0, 1) := by decide +kernel
theorem dX6_init_22 : decode cX6_init 22 = .ok (.ldc 7, 2) := by decide +kernel
theorem dX6_init_24 : decode cX6_init 24 = .ok (.newarray .int, 2) := by decide +kernel
theorem dX6_init_26 : decode cX6_init 26 = .ok (.putfield 18, 3) := by decide +kernel
theorem dX6_init_29 : decode cX6_init 29 = .ok (.aload_n 0, 1) := by decide +kernel
theorem dX6_init_30 : decode cX6_init 30 = .ok (.sipush 200, 3) := by decide +kernel
theorem dX6_init_33 : decode cX6_init 33 = .ok (.newarray .long, 2) := by decide +kernel
theorem dX6_init_35 : decode cX6_init 35 = .ok (.putfield 21, 3) := by decide +kernel
theorem dX6_init_38 : decode cX6_init 38 = .ok (.aload_n 0, 1) := by decide +kernel
theorem dX6_init_39 : decode cX6_init 39 = .ok (.iconst (-1), 1) := by decide +kernel
theorem dX6_init_40 : decode cX6_init 40 = .ok (.putfield 24, 3) := by decide +kernel
theorem dX6_init_43 : decode cX6_init 43 = .ok (.aload_n 0, 1) := by decide +kernel
theorem dX6_init_44 : decode cX6_init 44 = .ok (.sipush 200, 3) := by decide +kernel
theorem dX6_init_47 : decode cX6_init 47 = .ok (.newarray .boolean, 2) := by decide +kernel
theorem dX6_init_49 : decode cX6_init 49 = .ok (.putfield 28, 3) := by decide +kernel
theorem dX6_init_52 : decode cX6_init 52 = .ok (.aload_n 0, 1) := by decide +kernel
theorem dX6_init_53 : decode cX6_init 53 = .ok (.getfield 8, 3) := by decide +kernel
theorem dX6_init_56 : decode cX6_init 56 = .ok (.iconst 2, 1) := by decide +kernel
theorem dX6_init_57 : decode cX6_init 57 = .ok (.iconst 1, 1) := by decide +kernel
theorem dX6_init_58 : decode cX6_init 58 = .ok (.iastore, 1) := by decide +kernel
theorem dX6_init_59 : decode cX6_init 59 = .ok (.iconst 0, 1) := by decide +kernel
theorem dX6_init_60 : decode cX6_init 60 = .ok (.istore_n 1, 1) := by decide +kernel
theorem dX6_init_61 : decode cX6_init 61 = .ok (.iload_n 1, 1) := by decide +kernel
theorem dX6_init_62 : decode cX6_init 62 = .ok (.iconst 4, 1) := by decide +kernel
theorem dX6_init_63 : decode cX6_init 63 = .ok (.if_icmp .ge 19, 3) := by decide +kernel
theorem dX6_init_66 : decode cX6_init 66 = .ok (.aload_n 0, 1) := by decide +kernel
theorem dX6_init_67 : decode cX6_init 67 = .ok (.getfield 8, 3) := by decide +kernel
theorem dX6_init_70 : decode cX6_init 70 = .ok (.bipush 7, 2) := by decide +kernel
theorem dX6_init_72 : decode cX6_init 72 = .ok (.iload_n 1, 1) := by decide +kernel
theorem dX6_init_73 : decode cX6_init 73 = .ok (.iadd, 1) := by decide +kernel
theorem dX6_init_74 : decode cX6_init 74 = .ok (.iconst (-1), 1) := by decide +kernel
theorem dX6_init_75 : decode cX6_init 75 = .ok (.iastore, 1) := by decide +kernel
theorem dX6_init_76 : decode cX6_init 76 = .ok (.iinc 1 1, 3) := by decide +kernel
theorem dX6_init_79 : decode cX6_init 79 = .ok (.goto (-18), 3) := by decide +kernel
theorem dX6_init_82 : decode cX6_init 82 = .ok (.iconst 0, 1) := by decide +kernel
theorem dX6_init_83 : decode cX6_init 83 = .ok (.istore_n 1, 1) := by decide +kernel
theorem dX6_init_84 : decode cX6_init 84 = .ok (.iload_n 1, 1) := by decide +kernel
theorem dX6_init_85 : decode cX6_init 85 = .ok (.bipush 100, 2) := by decide +kernel
theorem dX6_init_87 : decode cX6_init 87 = .ok (.if_icmp .ge 21, 3) := by decide +kernel
theorem dX6_init_90 : decode cX6_init 90 = .ok (.aload_n 0, 1) := by decide +kernel
theorem dX6_init_91 : decode cX6_init 91 = .ok (.getfield 8, 3) := by decide +kernel
theorem dX6_init_94 : decode cX6_init 94 = .ok (.sipush 240, 3) := by decide +kernel
theorem dX6_init_97 : decode cX6_init 97 = .ok (.iload_n 1, 1) := by decide +kernel
theorem dX6_init_98 : decode cX6_init 98 = .ok (.iadd, 1) := by decide +kernel
theorem dX6_init_99 : decode cX6_init 99 = .ok (.bipush (-2), 2) := by decide +kernel
theorem dX6_init_101 : decode cX6_init 101 = .ok (.iastore, 1) := by decide +kernel
theorem dX6_init_102 : decode cX6_init 102 = .ok (.iinc 1 1, 3) := by decide +kernel
theorem dX6_init_105 : decode cX6_init 105 = .ok (.goto (-21), 3) := by decide +kernel
theorem dX6_init_108 : decode cX6_init 108 = .ok (.iconst 0, 1) := by decide +kernel
theorem dX6_init_109 : decode cX6_init 109 = .ok (.istore_n 1, 1) := by decide +kernel
theorem dX6_init_110 : decode cX6_init 110 = .ok (.iload_n 1, 1) := by decide +kernel
theorem dX6_init_111 : decode cX6_init 111 = .ok (.bipush 32, 2) := by decide +kernel
theorem dX6_init_113 : decode cX6_init 113 = .ok (.if_icmp .ge 20, 3) := by decide +kernel
theorem dX6_init_116 : decode cX6_init 116 = .ok (.aload_n 0, 1) := by decide +kernel
theorem dX6_init_117 : decode cX6_init 117 = .ok (.getfield 8, 3) := by decide +kernel
theorem dX6_init_120 : decode cX6_init 120 = .ok (.sipush 340, 3) := by decide +kernel
theorem dX6_init_123 : decode cX6_init 123 = .ok (.iload_n 1, 1) := by decide +kernel
theorem dX6_init_124 : decode cX6_init 124 = .ok (.iadd, 1) := by decide +kernel
theorem dX6_init_125 : decode cX6_init 125 = .ok (.iconst (-1), 1) := by decide +kernel
theorem dX6_init_126 : decode cX6_init 126 = .ok (.iastore, 1) := by decide +kernel
theorem dX6_init_127 : decode cX6_init 127 = .ok (.iinc 1 1, 3) := by decide +kernel
theorem dX6_init_130 : decode cX6_init 130 = .ok (.goto (-20), 3) := by decide +kernel
theorem dX6_init_133 : decode cX6_init 133 = .ok (.return_, 1) := by decide +kernel
theorem dX6_isIn_0 : decode cX6_isIn 0 = .ok (.lload_n 0, 1) := by decide +kernel
theorem dX6_isIn_1 : decode cX6_isIn 1 = .ok (.lload_n 2, 1) := by decide +kernel
theorem dX6_isIn_2 : decode cX6_isIn 2 = .ok (.lcmp, 1) := by decide +kernel
theorem dX6_isIn_3 : decode cX6_isIn 3 = .ok (.ifCond .lt 14, 3) := by decide +kernel
theorem dX6_isIn_6 : decode cX6_isIn 6 = .ok (.lload_n 0, 1) := by decide +kernel
theorem dX6_isIn_7 : decode cX6_isIn 7 = .ok (.lload 4, 2) := by decide +kernel
theorem dX6_isIn_9 : decode cX6_isIn 9 = .ok (.lcmp, 1) := by decide +kernel
theorem dX6_isIn_10 : decode cX6_isIn 10 = .ok (.ifCond .gt 7, 3) := by decide +kernel
theorem dX6_isIn_13 : decode cX6_isIn 13 = .ok (.iconst 1, 1) := by decide +kernel
theorem dX6_isIn_14 : decode cX6_isIn 14 = .ok (.goto 4, 3) := by decide +kernel
theorem dX6_isIn_17 : decode cX6_isIn 17 = .ok (.iconst 0, 1) := by decide +kernel
theorem dX6_isIn_18 : decode cX6_isIn 18 = .ok (.ireturn, 1) := by decide +kernel
theorem dX6_get_0 : decode cX6_get 0 = .ok (.aload_n 0, 1) := by decide +kernel
theorem dX6_get_1 : decode cX6_get 1 = .ok (.getfield 8, 3) := by decide +kernel
theorem dX6_get_4 : decode cX6_get 4 = .ok (.sipush 400, 3) := by decide +kernel
theorem dX6_get_7 : decode cX6_get 7 = .ok (.bipush 20, 2) := by decide +kernel
theorem dX6_get_9 : decode cX6_get 9 = .ok (.iload_n 1, 1) := by decide +kernel
theorem dX6_get_10 : decode cX6_get 10 = .ok (.imul, 1) := by decide +kernel
theorem dX6_get_11 : decode cX6_get 11 = .ok (.iadd, 1) := by decide +kernel
theorem dX6_get_12 : decode cX6_get 12 = .ok (.iload_n 2, 1) := by decide +kernel
theorem dX6_get_13 : decode cX6_get 13 = .ok (.iadd, 1) := by decide +kernel
theorem dX6_get_14 : decode cX6_get 14 = .ok (.iaload, 1) := by decide +kernel
theorem dX6_get_15 : decode cX6_get 15 = .ok (.ireturn, 1) := by decide +kernel
theorem dX6_set_0 : decode cX6_set 0 = .ok (.aload_n 0, 1) := by decide +kernel
theorem dX6_set_1 : decode cX6_set 1 = .ok (.getfield 8, 3) := by decide +kernel
theorem dX6_set_4 : decode cX6_set 4 = .ok (.sipush 400, 3) := by decide +kernel
theorem dX6_set_7 : decode cX6_set 7 = .ok (.bipush 20, 2) := by decide +kernel
theorem dX6_set_9 : decode cX6_set 9 = .ok (.iload_n 1, 1) := by decide +kernel
theorem dX6_set_10 : decode cX6_set 10 = .ok (.imul, 1) := by decide +kernel
theorem dX6_set_11 : decode cX6_set 11 = .ok (.iadd, 1) := by decide +kernel
theorem dX6_set_12 : decode cX6_set 12 = .ok (.iload_n 2, 1) := by decide +kernel
theorem dX6_set_13 : decode cX6_set 13 = .ok (.iadd, 1) := by decide +kernel
theorem dX6_set_14 : decode cX6_set 14 = .ok (.iload_n 3, 1) := by decide +kernel
theorem dX6_set_15 : decode cX6_set 15 = .ok (.iastore, 1) := by decide +kernel
theorem dX6_set_16 : decode cX6_set 16 = .ok (.return_, 1) := by decide +kernel
theorem dX6_isTask_0 : decode cX6_isTask 0 = .ok (.iload_n 1, 1) := by decide +kernel
theorem dX6_isTask_1 : decode cX6_isTask 1 = .ok (.i2l, 1) := by decide +kernel
theorem dX6_isTask_2 : decode cX6_isTask 2 = .ok (.lconst 0, 1) := by decide +kernel
theorem dX6_isTask_3 : decode cX6_isTask 3 = .ok (.aload_n 0, 1) := by decide +kernel
theorem dX6_isTask_4 : decode cX6_isTask 4 = .ok (.getfield 8, 3) := by decide +kernel
theorem dX6_isTask_7 : decode cX6_isTask 7 = .ok (.iconst 1, 1) := by decide +kernel
theorem dX6_isTask_8 : decode cX6_isTask 8 = .ok (.iaload, 1) := by decide +kernel
theorem dX6_isTask_9 : decode cX6_isTask 9 = .ok (.iconst 1, 1) := by decide +kernel
theorem dX6_isTask_10 : decode cX6_isTask 10 = .ok (.isub, 1) := by decide +kernel
theorem dX6_isTask_11 : decode cX6_isTask 11 = .ok (.i2l, 1) := by decide +kernel
theorem dX6_isTask_12 : decode cX6_isTask 12 = .ok (.invokestatic 32, 3) := by decide +kernel
theorem dX6_isTask_15 : decode cX6_isTask 15 = .ok (.ireturn, 1) := by decide +kernel
theorem dX6_isDue_0 : decode cX6_isDue 0 = .ok (.aload_n 0, 1) := by decide +kernel
theorem dX6_isDue_1 : decode cX6_isDue 1 = .ok (.iload_n 1, 1) := by decide +kernel
theorem dX6_isDue_2 : decode cX6_isDue 2 = .ok (.iconst 0, 1) := by decide +kernel
theorem dX6_isDue_3 : decode cX6_isDue 3 = .ok (.invokevirtual 36, 3) := by decide +kernel
theorem dX6_isDue_6 : decode cX6_isDue 6 = .ok (.iconst 1, 1) := by decide +kernel
theorem dX6_isDue_7 : decode cX6_isDue 7 = .ok (.if_icmp .eq 13, 3) := by decide +kernel
theorem dX6_isDue_10 : decode cX6_isDue 10 = .ok (.aload_n 0, 1) := by decide +kernel
theorem dX6_isDue_11 : decode cX6_isDue 11 = .ok (.iload_n 1, 1) := by decide +kernel
theorem dX6_isDue_12 : decode cX6_isDue 12 = .ok (.iconst 0, 1) := by decide +kernel
theorem dX6_isDue_13 : decode cX6_isDue 13 = .ok (.invokevirtual 36, 3) := by decide +kernel
theorem dX6_isDue_16 : decode cX6_isDue 16 = .ok (.iconst 2, 1) := by decide +kernel
theorem dX6_isDue_17 : decode cX6_isDue 17 = .ok (.if_icmp .ne 7, 3) := by decide +kernel
theorem dX6_isDue_20 : decode cX6_isDue 20 = .ok (.iconst 1, 1) := by decide +kernel
theorem dX6_isDue_21 : decode cX6_isDue 21 = .ok (.goto 4, 3) := by decide +kernel
theorem dX6_isDue_24 : decode cX6_isDue 24 = .ok (.iconst 0, 1) := by decide +kernel
theorem dX6_isDue_25 : decode cX6_isDue 25 = .ok (.ireturn, 1) := by decide +kernel
theorem dX6_body_0 : decode cX6_body 0 = .ok (.aload_n 0, 1) := by decide +kernel
theorem dX6_body_1 : decode cX6_body 1 = .ok (.getfield 8, 3) := by decide +kernel
theorem dX6_body_4 : decode cX6_body 4 = .ok (.sipush 220, 3) := by decide +kernel
theorem dX6_body_7 : decode cX6_body 7 = .ok (.iload_n 1, 1) := by decide +kernel
theorem dX6_body_8 : decode cX6_body 8 = .ok (.iadd, 1) := by decide +kernel
theorem dX6_body_9 : decode cX6_body 9 = .ok (.dup2, 1) := by decide +kernel
theorem dX6_body_10 : decode cX6_body 10 = .ok (.iaload, 1) := by decide +kernel
theorem dX6_body_11 : decode cX6_body 11 = .ok (.iconst 1, 1) := by decide +kernel
theorem dX6_body_12 : decode cX6_body 12 = .ok (.iadd, 1) := by decide +kernel
theorem dX6_body_13 : decode cX6_body 13 = .ok (.iastore, 1) := by decide +kernel
theorem dX6_body_14 : decode cX6_body 14 = .ok (.return_, 1) := by decide +kernel
theorem dX6_isRefused_0 : decode cX6_isRefused 0 = .ok (.aload_n 0, 1) := by decide +kernel
theorem dX6_isRefused_1 : decode cX6_isRefused 1 = .ok (.iload_n 1, 1) := by decide +kernel
theorem dX6_isRefused_2 : decode cX6_isRefused 2 = .ok (.ifCond .le 7, 3) := by decide +kernel
theorem dX6_isRefused_5 : decode cX6_isRefused 5 = .ok (.iload_n 1, 1) := by decide +kernel
theorem dX6_isRefused_6 : decode cX6_isRefused 6 = .ok (.goto 21, 3) := by decide +kernel
theorem dX6_isRefused_9 : decode cX6_isRefused 9 = .ok (.aload_n 0, 1) := by decide +kernel
theorem dX6_isRefused_10 : decode cX6_isRefused 10 = .ok (.getfield 8, 3) := by decide +kernel
theorem dX6_isRefused_13 : decode cX6_isRefused 13 = .ok (.bipush 6, 2) := by decide +kernel
theorem dX6_isRefused_15 : decode cX6_isRefused 15 = .ok (.iaload, 1) := by decide +kernel
theorem dX6_isRefused_16 : decode cX6_isRefused 16 = .ok (.sipush 1000, 3) := by decide +kernel
theorem dX6_isRefused_19 : decode cX6_isRefused 19 = .ok (.if_icmp .ne 7, 3) := by decide +kernel
theorem dX6_isRefused_22 : decode cX6_isRefused 22 = .ok (.iconst 5, 1) := by decide +kernel
theorem dX6_isRefused_23 : decode cX6_isRefused 23 = .ok (.goto 4, 3) := by decide +kernel
theorem dX6_isRefused_26 : decode cX6_isRefused 26 = .ok (.iconst 0, 1) := by decide +kernel
theorem dX6_isRefused_27 : decode cX6_isRefused 27 = .ok (.putfield 40, 3) := by decide +kernel
theorem dX6_isRefused_30 : decode cX6_isRefused 30 = .ok (.aload_n 0, 1) := by decide +kernel
theorem dX6_isRefused_31 : decode cX6_isRefused 31 = .ok (.getfield 40, 3) := by decide +kernel
theorem dX6_isRefused_34 : decode cX6_isRefused 34 = .ok (.ifCond .ne 14, 3) := by decide +kernel
theorem dX6_isRefused_37 : decode cX6_isRefused 37 = .ok (.aload_n 0, 1) := by decide +kernel
theorem dX6_isRefused_38 : decode cX6_isRefused 38 = .ok (.getfield 8, 3) := by decide +kernel
theorem dX6_isRefused_41 : decode cX6_isRefused 41 = .ok (.bipush 6, 2) := by decide +kernel
theorem dX6_isRefused_43 : decode cX6_isRefused 43 = .ok (.dup2, 1) := by decide +kernel
theorem dX6_isRefused_44 : decode cX6_isRefused 44 = .ok (.iaload, 1) := by decide +kernel
theorem dX6_isRefused_45 : decode cX6_isRefused 45 = .ok (.iconst 1, 1) := by decide +kernel
theorem dX6_isRefused_46 : decode cX6_isRefused 46 = .ok (.iadd, 1) := by decide +kernel
theorem dX6_isRefused_47 : decode cX6_isRefused 47 = .ok (.iastore, 1) := by decide +kernel
theorem dX6_isRefused_48 : decode cX6_isRefused 48 = .ok (.aload_n 0, 1) := by decide +kernel
theorem dX6_isRefused_49 : decode cX6_isRefused 49 = .ok (.getfield 40, 3) := by decide +kernel
theorem dX6_isRefused_52 : decode cX6_isRefused 52 = .ok (.ifCond .le 7, 3) := by decide +kernel
theorem dX6_isRefused_55 : decode cX6_isRefused 55 = .ok (.iconst 1, 1) := by decide +kernel
theorem dX6_isRefused_56 : decode cX6_isRefused 56 = .ok (.goto 4, 3) := by decide +kernel
theorem dX6_isRefused_59 : decode cX6_isRefused 59 = .ok (.iconst 0, 1) := by decide +kernel
theorem dX6_isRefused_60 : decode cX6_isRefused 60 = .ok (.ireturn, 1) := by decide +kernel
theorem dX6_classOf_0 : decode cX6_classOf 0 = .ok (.aload_n 0, 1) := by decide +kernel
theorem dX6_classOf_1 : decode cX6_classOf 1 = .ok (.iload_n 1, 1) := by decide +kernel
theorem dX6_classOf_2 : decode cX6_classOf 2 = .ok (.invokevirtual 43, 3) := by decide +kernel
theorem dX6_classOf_5 : decode cX6_classOf 5 = .ok (.ifCond .eq 17, 3) := by decide +kernel
theorem dX6_classOf_8 : decode cX6_classOf 8 = .ok (.aload_n 0, 1) := by decide +kernel
theorem dX6_classOf_9 : decode cX6_classOf 9 = .ok (.iload_n 1, 1) := by decide +kernel
theorem dX6_classOf_10 : decode cX6_classOf 10 = .ok (.bipush 13, 2) := by decide +kernel
theorem dX6_classOf_12 : decode cX6_classOf 12 = .ok (.invokevirtual 36, 3) := by decide +kernel
theorem dX6_classOf_15 : decode cX6_classOf 15 = .ok (.ifCond .le 7, 3) := by decide +kernel
theorem dX6_classOf_18 : decode cX6_classOf 18 = .ok (.iconst 0, 1) := by decide +kernel
theorem dX6_classOf_19 : decode cX6_classOf 19 = .ok (.goto 4, 3) := by decide +kernel
theorem dX6_classOf_22 : decode cX6_classOf 22 = .ok (.iconst 1, 1) := by decide +kernel
theorem dX6_classOf_23 : decode cX6_classOf 23 = .ok (.ireturn, 1) := by decide +kernel
theorem dX6_keyOf_0 : decode cX6_keyOf 0 = .ok (.aload_n 0, 1) := by decide +kernel
theorem dX6_keyOf_1 : decode cX6_keyOf 1 = .ok (.iload_n 1, 1) := by decide +kernel
theorem dX6_keyOf_2 : decode cX6_keyOf 2 = .ok (.invokevirtual 47, 3) := by decide +kernel
theorem dX6_keyOf_5 : decode cX6_keyOf 5 = .ok (.ifCond .ne 14, 3) := by decide +kernel
theorem dX6_keyOf_8 : decode cX6_keyOf 8 = .ok (.aload_n 0, 1) := by decide +kernel
theorem dX6_keyOf_9 : decode cX6_keyOf 9 = .ok (.iload_n 1, 1) := by decide +kernel
theorem dX6_keyOf_10 : decode cX6_keyOf 10 = .ok (.bipush 12, 2) := by decide +kernel
theorem dX6_keyOf_12 : decode cX6_keyOf 12 = .ok (.invokevirtual 36, 3) := by decide +kernel
theorem dX6_keyOf_15 : decode cX6_keyOf 15 = .ok (.i2l, 1) := by decide +kernel
theorem dX6_keyOf_16 : decode cX6_keyOf 16 = .ok (.goto 9, 3) := by decide +kernel
theorem dX6_keyOf_19 : decode cX6_keyOf 19 = .ok (.aload_n 0, 1) := by decide +kernel
theorem dX6_keyOf_20 : decode cX6_keyOf 20 = .ok (.getfield 14, 3) := by decide +kernel
theorem dX6_keyOf_23 : decode cX6_keyOf 23 = .ok (.iload_n 1, 1) := by decide +kernel
theorem dX6_keyOf_24 : decode cX6_keyOf 24 = .ok (.laload, 1) := by decide +kernel
theorem dX6_keyOf_25 : decode cX6_keyOf 25 = .ok (.lreturn, 1) := by decide +kernel
theorem dX6_isAhead_0 : decode cX6_isAhead 0 = .ok (.aload_n 0, 1) := by decide +kernel
theorem dX6_isAhead_1 : decode cX6_isAhead 1 = .ok (.iload_n 1, 1) := by decide +kernel
theorem dX6_isAhead_2 : decode cX6_isAhead 2 = .ok (.invokevirtual 47, 3) := by decide +kernel
theorem dX6_isAhead_5 : decode cX6_isAhead 5 = .ok (.aload_n 0, 1) := by decide +kernel
theorem dX6_isAhead_6 : decode cX6_isAhead 6 = .ok (.iload_n 2, 1) := by decide +kernel
theorem dX6_isAhead_7 : decode cX6_isAhead 7 = .ok (.invokevirtual 47, 3) := by decide +kernel
theorem dX6_isAhead_10 : decode cX6_isAhead 10 = .ok (.if_icmp .eq 22, 3) := by decide +kernel
theorem dX6_isAhead_13 : decode cX6_isAhead 13 = .ok (.aload_n 0, 1) := by decide +kernel
theorem dX6_isAhead_14 : decode cX6_isAhead 14 = .ok (.iload_n 1, 1) := by decide +kernel
theorem dX6_isAhead_15 : decode cX6_isAhead 15 = .ok (.invokevirtual 47, 3) := by decide +kernel
theorem dX6_isAhead_18 : decode cX6_isAhead 18 = .ok (.aload_n 0, 1) := by decide +kernel
theorem dX6_isAhead_19 : decode cX6_isAhead 19 = .ok (.iload_n 2, 1) := by decide +kernel
theorem dX6_isAhead_20 : decode cX6_isAhead 20 = .ok (.invokevirtual 47, 3) := by decide +kernel
theorem dX6_isAhead_23 : decode cX6_isAhead 23 = .ok (.if_icmp .ge 7, 3) := by decide +kernel
theorem dX6_isAhead_26 : decode cX6_isAhead 26 = .ok (.iconst 1, 1) := by decide +kernel
theorem dX6_isAhead_27 : decode cX6_isAhead 27 = .ok (.goto 4, 3) := by decide +kernel
theorem dX6_isAhead_30 : decode cX6_isAhead 30 = .ok (.iconst 0, 1) := by decide +kernel
theorem dX6_isAhead_31 : decode cX6_isAhead 31 = .ok (.ireturn, 1) := by decide +kernel
theorem dX6_isAhead_32 : decode cX6_isAhead 32 = .ok (.aload_n 0, 1) := by decide +kernel
theorem dX6_isAhead_33 : decode cX6_isAhead 33 = .ok (.iload_n 1, 1) := by decide +kernel
theorem dX6_isAhead_34 : decode cX6_isAhead 34 = .ok (.invokevirtual 51, 3) := by decide +kernel
theorem dX6_isAhead_37 : decode cX6_isAhead 37 = .ok (.aload_n 0, 1) := by decide +kernel
theorem dX6_isAhead_38 : decode cX6_isAhead 38 = .ok (.iload_n 2, 1) := by decide +kernel
theorem dX6_isAhead_39 : decode cX6_isAhead 39 = .ok (.invokevirtual 51, 3) := by decide +kernel
theorem dX6_isAhead_42 : decode cX6_isAhead 42 = .ok (.lcmp, 1) := by decide +kernel
theorem dX6_isAhead_43 : decode cX6_isAhead 43 = .ok (.ifCond .eq 25, 3) := by decide +kernel
theorem dX6_isAhead_46 : decode cX6_isAhead 46 = .ok (.aload_n 0, 1) := by decide +kernel
theorem dX6_isAhead_47 : decode cX6_isAhead 47 = .ok (.iload_n 1, 1) := by decide +kernel
theorem dX6_isAhead_48 : decode cX6_isAhead 48 = .ok (.invokevirtual 51, 3) := by decide +kernel
theorem dX6_isAhead_51 : decode cX6_isAhead 51 = .ok (.aload_n 0, 1) := by decide +kernel
theorem dX6_isAhead_52 : decode cX6_isAhead 52 = .ok (.iload_n 2, 1) := by decide +kernel
theorem dX6_isAhead_53 : decode cX6_isAhead 53 = .ok (.invokevirtual 51, 3) := by decide +kernel
theorem dX6_isAhead_56 : decode cX6_isAhead 56 = .ok (.lcmp, 1) := by decide +kernel
theorem dX6_isAhead_57 : decode cX6_isAhead 57 = .ok (.ifCond .ge 7, 3) := by decide +kernel
theorem dX6_isAhead_60 : decode cX6_isAhead 60 = .ok (.iconst 1, 1) := by decide +kernel
theorem dX6_isAhead_61 : decode cX6_isAhead 61 = .ok (.goto 17, 3) := by decide +kernel
theorem dX6_isAhead_64 : decode cX6_isAhead 64 = .ok (.iconst 0, 1) := by decide +kernel
theorem dX6_isAhead_65 : decode cX6_isAhead 65 = .ok (.goto 13, 3) := by decide +kernel
theorem dX6_isAhead_68 : decode cX6_isAhead 68 = .ok (.iload_n 1, 1) := by decide +kernel
theorem dX6_isAhead_69 : decode cX6_isAhead 69 = .ok (.iload_n 2, 1) := by decide +kernel
theorem dX6_isAhead_70 : decode cX6_isAhead 70 = .ok (.if_icmp .ge 7, 3) := by decide +kernel
theorem dX6_isAhead_73 : decode cX6_isAhead 73 = .ok (.iconst 1, 1) := by decide +kernel
theorem dX6_isAhead_74 : decode cX6_isAhead 74 = .ok (.goto 4, 3) := by decide +kernel
theorem dX6_isAhead_77 : decode cX6_isAhead 77 = .ok (.iconst 0, 1) := by decide +kernel
theorem dX6_isAhead_78 : decode cX6_isAhead 78 = .ok (.ireturn, 1) := by decide +kernel
theorem dX6_standingOf_0 : decode cX6_standingOf 0 = .ok (.iload_n 1, 1) := by decide +kernel
theorem dX6_standingOf_1 : decode cX6_standingOf 1 = .ok (.istore_n 2, 1) := by decide +kernel
theorem dX6_standingOf_2 : decode cX6_standingOf 2 = .ok (.iconst 0, 1) := by decide +kernel
theorem dX6_standingOf_3 : decode cX6_standingOf 3 = .ok (.istore_n 3, 1) := by decide +kernel
theorem dX6_standingOf_4 : decode cX6_standingOf 4 = .ok (.iload_n 3, 1) := by decide +kernel
theorem dX6_standingOf_5 : decode cX6_standingOf 5 = .ok (.aload_n 0, 1) := by decide +kernel
theorem dX6_standingOf_6 : decode cX6_standingOf 6 = .ok (.getfield 8, 3) := by decide +kernel
theorem dX6_standingOf_9 : decode cX6_standingOf 9 = .ok (.iconst 1, 1) := by decide +kernel
theorem dX6_standingOf_10 : decode cX6_standingOf 10 = .ok (.iaload, 1) := by decide +kernel
theorem dX6_standingOf_11 : decode cX6_standingOf 11 = .ok (.if_icmp .ge 95, 3) := by decide +kernel
theorem dX6_standingOf_14 : decode cX6_standingOf 14 = .ok (.iload_n 3, 1) := by decide +kernel
theorem dX6_standingOf_15 : decode cX6_standingOf 15 = .ok (.istore 4, 2) := by decide +kernel
theorem dX6_standingOf_17 : decode cX6_standingOf 17 = .ok (.iconst 0, 1) := by decide +kernel
theorem dX6_standingOf_18 : decode cX6_standingOf 18 = .ok (.istore 5, 2) := by decide +kernel
theorem dX6_standingOf_20 : decode cX6_standingOf 20 = .ok (.iload 5, 2) := by decide +kernel
theorem dX6_standingOf_22 : decode cX6_standingOf 22 = .ok (.aload_n 0, 1) := by decide +kernel
theorem dX6_standingOf_23 : decode cX6_standingOf 23 = .ok (.getfield 8, 3) := by decide +kernel
theorem dX6_standingOf_26 : decode cX6_standingOf 26 = .ok (.iconst 1, 1) := by decide +kernel
theorem dX6_standingOf_27 : decode cX6_standingOf 27 = .ok (.iaload, 1) := by decide +kernel
theorem dX6_standingOf_28 : decode cX6_standingOf 28 = .ok (.if_icmp .gt 55, 3) := by decide +kernel
theorem dX6_standingOf_31 : decode cX6_standingOf 31 = .ok (.iload 4, 2) := by decide +kernel
theorem dX6_standingOf_33 : decode cX6_standingOf 33 = .ok (.ifCond .lt 50, 3) := by decide +kernel
theorem dX6_standingOf_36 : decode cX6_standingOf 36 = .ok (.iload 4, 2) := by decide +kernel
theorem dX6_standingOf_38 : decode cX6_standingOf 38 = .ok (.iload_n 1, 1) := by decide +kernel
theorem dX6_standingOf_39 : decode cX6_standingOf 39 = .ok (.if_icmp .eq 44, 3) := by decide +kernel
theorem dX6_standingOf_42 : decode cX6_standingOf 42 = .ok (.aload_n 0, 1) := by decide +kernel
theorem dX6_standingOf_43 : decode cX6_standingOf 43 = .ok (.iload 4, 2) := by decide +kernel
theorem dX6_standingOf_45 : decode cX6_standingOf 45 = .ok (.bipush 6, 2) := by decide +kernel
theorem dX6_standingOf_47 : decode cX6_standingOf 47 = .ok (.invokevirtual 36, 3) := by decide +kernel
theorem dX6_standingOf_50 : decode cX6_standingOf 50 = .ok (.iconst 1, 1) := by decide +kernel
theorem dX6_standingOf_51 : decode cX6_standingOf 51 = .ok (.if_icmp .ne 23, 3) := by decide +kernel
theorem dX6_standingOf_54 : decode cX6_standingOf 54 = .ok (.aload_n 0, 1) := by decide +kernel
theorem dX6_standingOf_55 : decode cX6_standingOf 55 = .ok (.getfield 8, 3) := by decide +kernel
theorem dX6_standingOf_58 : decode cX6_standingOf 58 = .ok (.sipush 240, 3) := by decide +kernel
theorem dX6_standingOf_61 : decode cX6_standingOf 61 = .ok (.aload_n 0, 1) := by decide +kernel
theorem dX6_standingOf_62 : decode cX6_standingOf 62 = .ok (.iload 4, 2) := by decide +kernel
theorem dX6_standingOf_64 : decode cX6_standingOf 64 = .ok (.bipush 7, 2) := by decide +kernel
theorem dX6_standingOf_66 : decode cX6_standingOf 66 = .ok (.invokevirtual 36, 3) := by decide +kernel
theorem dX6_standingOf_69 : decode cX6_standingOf 69 = .ok (.iadd, 1) := by decide +kernel
theorem dX6_standingOf_70 : decode cX6_standingOf 70 = .ok (.iaload, 1) := by decide +kernel
theorem dX6_standingOf_71 : decode cX6_standingOf 71 = .ok (.goto 4, 3) := by decide +kernel
theorem dX6_standingOf_74 : decode cX6_standingOf 74 = .ok (.iconst (-1), 1) := by decide +kernel
theorem dX6_standingOf_75 : decode cX6_standingOf 75 = .ok (.istore 4, 2) := by decide +kernel
theorem dX6_standingOf_77 : decode cX6_standingOf 77 = .ok (.iinc 5 1, 3) := by decide +kernel
theorem dX6_standingOf_80 : decode cX6_standingOf 80 = .ok (.goto (-60), 3) := by decide +kernel
theorem dX6_standingOf_83 : decode cX6_standingOf 83 = .ok (.iload 4, 2) := by decide +kernel
theorem dX6_standingOf_85 : decode cX6_standingOf 85 = .ok (.iload_n 1, 1) := by decide +kernel
theorem dX6_standingOf_86 : decode cX6_standingOf 86 = .ok (.if_icmp .ne 14, 3) := by decide +kernel
theorem dX6_standingOf_89 : decode cX6_standingOf 89 = .ok (.aload_n 0, 1) := by decide +kernel
theorem dX6_standingOf_90 : decode cX6_standingOf 90 = .ok (.iload_n 3, 1) := by decide +kernel
theorem dX6_standingOf_91 : decode cX6_standingOf 91 = .ok (.iload_n 2, 1) := by decide +kernel
theorem dX6_standingOf_92 : decode cX6_standingOf 92 = .ok (.invokevirtual 55, 3) := by decide +kernel
theorem dX6_standingOf_95 : decode cX6_standingOf 95 = .ok (.ifCond .eq 5, 3) := by decide +kernel
theorem dX6_standingOf_98 : decode cX6_standingOf 98 = .ok (.iload_n 3, 1) := by decide +kernel
theorem dX6_standingOf_99 : decode cX6_standingOf 99 = .ok (.istore_n 2, 1) := by decide +kernel
theorem dX6_standingOf_100 : decode cX6_standingOf 100 = .ok (.iinc 3 1, 3) := by decide +kernel
theorem dX6_standingOf_103 : decode cX6_standingOf 103 = .ok (.goto (-99), 3) := by decide +kernel
theorem dX6_standingOf_106 : decode cX6_standingOf 106 = .ok (.iload_n 2, 1) := by decide +kernel
theorem dX6_standingOf_107 : decode cX6_standingOf 107 = .ok (.ireturn, 1) := by decide +kernel
theorem dX6_waits_0 : decode cX6_waits 0 = .ok (.aload_n 0, 1) := by decide +kernel
theorem dX6_waits_1 : decode cX6_waits 1 = .ok (.iload_n 1, 1) := by decide +kernel
theorem dX6_waits_2 : decode cX6_waits 2 = .ok (.bipush 6, 2) := by decide +kernel
theorem dX6_waits_4 : decode cX6_waits 4 = .ok (.iload_n 2, 1) := by decide +kernel
theorem dX6_waits_5 : decode cX6_waits 5 = .ok (.invokevirtual 59, 3) := by decide +kernel
theorem dX6_waits_8 : decode cX6_waits 8 = .ok (.aload_n 0, 1) := by decide +kernel
theorem dX6_waits_9 : decode cX6_waits 9 = .ok (.iload_n 1, 1) := by decide +kernel
theorem dX6_waits_10 : decode cX6_waits 10 = .ok (.bipush 7, 2) := by decide +kernel
theorem dX6_waits_12 : decode cX6_waits 12 = .ok (.iload_n 3, 1) := by decide +kernel
theorem dX6_waits_13 : decode cX6_waits 13 = .ok (.invokevirtual 59, 3) := by decide +kernel
theorem dX6_waits_16 : decode cX6_waits 16 = .ok (.aload_n 0, 1) := by decide +kernel
theorem dX6_waits_17 : decode cX6_waits 17 = .ok (.iload_n 1, 1) := by decide +kernel
theorem dX6_waits_18 : decode cX6_waits 18 = .ok (.bipush 8, 2) := by decide +kernel
theorem dX6_waits_20 : decode cX6_waits 20 = .ok (.iload 4, 2) := by decide +kernel
theorem dX6_waits_22 : decode cX6_waits 22 = .ok (.invokevirtual 59, 3) := by decide +kernel
theorem dX6_waits_25 : decode cX6_waits 25 = .ok (.aload_n 0, 1) := by decide +kernel
theorem dX6_waits_26 : decode cX6_waits 26 = .ok (.iload_n 1, 1) := by decide +kernel
theorem dX6_waits_27 : decode cX6_waits 27 = .ok (.iconst 0, 1) := by decide +kernel
theorem dX6_waits_28 : decode cX6_waits 28 = .ok (.invokevirtual 36, 3) := by decide +kernel
theorem dX6_waits_31 : decode cX6_waits 31 = .ok (.istore 5, 2) := by decide +kernel
theorem dX6_waits_33 : decode cX6_waits 33 = .ok (.iload 5, 2) := by decide +kernel
theorem dX6_waits_35 : decode cX6_waits 35 = .ok (.iconst 3, 1) := by decide +kernel
theorem dX6_waits_36 : decode cX6_waits 36 = .ok (.if_icmp .eq 9, 3) := by decide +kernel
theorem dX6_waits_39 : decode cX6_waits 39 = .ok (.iload 5, 2) := by decide +kernel
theorem dX6_waits_41 : decode cX6_waits 41 = .ok (.iconst 4, 1) := by decide +kernel
theorem dX6_waits_42 : decode cX6_waits 42 = .ok (.if_icmp .ne 8, 3) := by decide +kernel
theorem dX6_waits_45 : decode cX6_waits 45 = .ok (.aload_n 0, 1) := by decide +kernel
theorem dX6_waits_46 : decode cX6_waits 46 = .ok (.iconst 4, 1) := by decide +kernel
theorem dX6_waits_47 : decode cX6_waits 47 = .ok (.invokevirtual 63, 3) := by decide +kernel
theorem dX6_waits_50 : decode cX6_waits 50 = .ok (.iload 5, 2) := by decide +kernel
theorem dX6_waits_52 : decode cX6_waits 52 = .ok (.iconst 2, 1) := by decide +kernel
theorem dX6_waits_53 : decode cX6_waits 53 = .ok (.if_icmp .ne 8, 3) := by decide +kernel
theorem dX6_waits_56 : decode cX6_waits 56 = .ok (.aload_n 0, 1) := by decide +kernel
theorem dX6_waits_57 : decode cX6_waits 57 = .ok (.iconst 5, 1) := by decide +kernel
theorem dX6_waits_58 : decode cX6_waits 58 = .ok (.invokevirtual 63, 3) := by decide +kernel
theorem dX6_waits_61 : decode cX6_waits 61 = .ok (.aload_n 0, 1) := by decide +kernel
theorem dX6_waits_62 : decode cX6_waits 62 = .ok (.iconst 3, 1) := by decide +kernel
theorem dX6_waits_63 : decode cX6_waits 63 = .ok (.invokevirtual 63, 3) := by decide +kernel
theorem dX6_waits_66 : decode cX6_waits 66 = .ok (.return_, 1) := by decide +kernel
theorem dX6_isReadyNow_0 : decode cX6_isReadyNow 0 = .ok (.aload_n 0, 1) := by decide +kernel
theorem dX6_isReadyNow_1 : decode cX6_isReadyNow 1 = .ok (.iload_n 1, 1) := by decide +kernel
theorem dX6_isReadyNow_2 : decode cX6_isReadyNow 2 = .ok (.bipush 6, 2) := by decide +kernel
theorem dX6_isReadyNow_4 : decode cX6_isReadyNow 4 = .ok (.iconst 0, 1) := by decide +kernel
theorem dX6_isReadyNow_5 : decode cX6_isReadyNow 5 = .ok (.invokevirtual 59, 3) := by decide +kernel
theorem dX6_isReadyNow_8 : decode cX6_isReadyNow 8 = .ok (.aload_n 0, 1) := by decide +kernel
theorem dX6_isReadyNow_9 : decode cX6_isReadyNow 9 = .ok (.iload_n 1, 1) := by decide +kernel
theorem dX6_isReadyNow_10 : decode cX6_isReadyNow 10 = .ok (.bipush 7, 2) := by decide +kernel
theorem dX6_isReadyNow_12 : decode cX6_isReadyNow 12 = .ok (.iconst (-1), 1) := by decide +kernel
theorem dX6_isReadyNow_13 : decode cX6_isReadyNow 13 = .ok (.invokevirtual 59, 3) := by decide +kernel
theorem dX6_isReadyNow_16 : decode cX6_isReadyNow 16 = .ok (.aload_n 0, 1) := by decide +kernel
theorem dX6_isReadyNow_17 : decode cX6_isReadyNow 17 = .ok (.iload_n 1, 1) := by decide +kernel
theorem dX6_isReadyNow_18 : decode cX6_isReadyNow 18 = .ok (.bipush 8, 2) := by decide +kernel
theorem dX6_isReadyNow_20 : decode cX6_isReadyNow 20 = .ok (.iconst (-1), 1) := by decide +kernel
theorem dX6_isReadyNow_21 : decode cX6_isReadyNow 21 = .ok (.invokevirtual 59, 3) := by decide +kernel
theorem dX6_isReadyNow_24 : decode cX6_isReadyNow 24 = .ok (.return_, 1) := by decide +kernel
theorem dX6_passes_0 : decode cX6_passes 0 = .ok (.iconst (-1), 1) := by decide +kernel
theorem dX6_passes_1 : decode cX6_passes 1 = .ok (.istore_n 2, 1) := by decide +kernel
theorem dX6_passes_2 : decode cX6_passes 2 = .ok (.iconst (-1), 1) := by decide +kernel
theorem dX6_passes_3 : decode cX6_passes 3 = .ok (.istore_n 3, 1) := by decide +kernel
theorem dX6_passes_4 : decode cX6_passes 4 = .ok (.iconst 0, 1) := by decide +kernel
theorem dX6_passes_5 : decode cX6_passes 5 = .ok (.istore 4, 2) := by decide +kernel
theorem dX6_passes_7 : decode cX6_passes 7 = .ok (.iload 4, 2) := by decide +kernel
theorem dX6_passes_9 : decode cX6_passes 9 = .ok (.aload_n 0, 1) := by decide +kernel
theorem dX6_passes_10 : decode cX6_passes 10 = .ok (.getfield 8, 3) := by decide +kernel
theorem dX6_passes_13 : decode cX6_passes 13 = .ok (.iconst 1, 1) := by decide +kernel
theorem dX6_passes_14 : decode cX6_passes 14 = .ok (.iaload, 1) := by decide +kernel
theorem dX6_passes_15 : decode cX6_passes 15 = .ok (.if_icmp .ge 64, 3) := by decide +kernel
theorem dX6_passes_18 : decode cX6_passes 18 = .ok (.aload_n 0, 1) := by decide +kernel
theorem dX6_passes_19 : decode cX6_passes 19 = .ok (.iload 4, 2) := by decide +kernel
theorem dX6_passes_21 : decode cX6_passes 21 = .ok (.bipush 6, 2) := by decide +kernel
theorem dX6_passes_23 : decode cX6_passes 23 = .ok (.invokevirtual 36, 3) := by decide +kernel
theorem dX6_passes_26 : decode cX6_passes 26 = .ok (.iconst 1, 1) := by decide +kernel
theorem dX6_passes_27 : decode cX6_passes 27 = .ok (.if_icmp .ne 46, 3) := by decide +kernel
theorem dX6_passes_30 : decode cX6_passes 30 = .ok (.aload_n 0, 1) := by decide +kernel
theorem dX6_passes_31 : decode cX6_passes 31 = .ok (.iload 4, 2) := by decide +kernel
theorem dX6_passes_33 : decode cX6_passes 33 = .ok (.bipush 7, 2) := by decide +kernel
theorem dX6_passes_35 : decode cX6_passes 35 = .ok (.invokevirtual 36, 3) := by decide +kernel
theorem dX6_passes_38 : decode cX6_passes 38 = .ok (.iload_n 1, 1) := by decide +kernel
theorem dX6_passes_39 : decode cX6_passes 39 = .ok (.if_icmp .eq 6, 3) := by decide +kernel
theorem dX6_passes_42 : decode cX6_passes 42 = .ok (.goto 31, 3) := by decide +kernel
theorem dX6_passes_45 : decode cX6_passes 45 = .ok (.aload_n 0, 1) := by decide +kernel
theorem dX6_passes_46 : decode cX6_passes 46 = .ok (.iload 4, 2) := by decide +kernel
theorem dX6_passes_48 : decode cX6_passes 48 = .ok (.invokevirtual 67, 3) := by decide +kernel
theorem dX6_passes_51 : decode cX6_passes 51 = .ok (.istore 5, 2) := by decide +kernel
theorem dX6_passes_53 : decode cX6_passes 53 = .ok (.iload_n 2, 1) := by decide +kernel
theorem dX6_passes_54 : decode cX6_passes 54 = .ok (.ifCond .lt 13, 3) := by decide +kernel
theorem dX6_passes_57 : decode cX6_passes 57 = .ok (.aload_n 0, 1) := by decide +kernel
theorem dX6_passes_58 : decode cX6_passes 58 = .ok (.iload 5, 2) := by decide +kernel
theorem dX6_passes_60 : decode cX6_passes 60 = .ok (.iload_n 3, 1) := by decide +kernel
theorem dX6_passes_61 : decode cX6_passes 61 = .ok (.invokevirtual 55, 3) := by decide +kernel
theorem dX6_passes_64 : decode cX6_passes 64 = .ok (.ifCond .eq 9, 3) := by decide +kernel
theorem dX6_passes_67 : decode cX6_passes 67 = .ok (.iload 4, 2) := by decide +kernel
theorem dX6_passes_69 : decode cX6_passes 69 = .ok (.istore_n 2, 1) := by decide +kernel
theorem dX6_passes_70 : decode cX6_passes 70 = .ok (.iload 5, 2) := by decide +kernel
theorem dX6_passes_72 : decode cX6_passes 72 = .ok (.istore_n 3, 1) := by decide +kernel
theorem dX6_passes_73 : decode cX6_passes 73 = .ok (.iinc 4 1, 3) := by decide +kernel
theorem dX6_passes_76 : decode cX6_passes 76 = .ok (.goto (-69), 3) := by decide +kernel
theorem dX6_passes_79 : decode cX6_passes 79 = .ok (.aload_n 0, 1) := by decide +kernel
theorem dX6_passes_80 : decode cX6_passes 80 = .ok (.getfield 8, 3) := by decide +kernel
theorem dX6_passes_83 : decode cX6_passes 83 = .ok (.sipush 240, 3) := by decide +kernel
theorem dX6_passes_86 : decode cX6_passes 86 = .ok (.iload_n 1, 1) := by decide +kernel
theorem dX6_passes_87 : decode cX6_passes 87 = .ok (.iadd, 1) := by decide +kernel
theorem dX6_passes_88 : decode cX6_passes 88 = .ok (.iload_n 2, 1) := by decide +kernel
theorem dX6_passes_89 : decode cX6_passes 89 = .ok (.iastore, 1) := by decide +kernel
theorem dX6_passes_90 : decode cX6_passes 90 = .ok (.iload_n 2, 1) := by decide +kernel
theorem dX6_passes_91 : decode cX6_passes 91 = .ok (.ifCond .ge 4, 3) := by decide +kernel
theorem dX6_passes_94 : decode cX6_passes 94 = .ok (.return_, 1) := by decide +kernel
theorem dX6_passes_95 : decode cX6_passes 95 = .ok (.aload_n 0, 1) := by decide +kernel
theorem dX6_passes_96 : decode cX6_passes 96 = .ok (.iload_n 2, 1) := by decide +kernel
theorem dX6_passes_97 : decode cX6_passes 97 = .ok (.invokevirtual 70, 3) := by decide +kernel
theorem dX6_passes_100 : decode cX6_passes 100 = .ok (.aload_n 0, 1) := by decide +kernel
theorem dX6_passes_101 : decode cX6_passes 101 = .ok (.aload_n 0, 1) := by decide +kernel
theorem dX6_passes_102 : decode cX6_passes 102 = .ok (.iload_n 2, 1) := by decide +kernel
theorem dX6_passes_103 : decode cX6_passes 103 = .ok (.iconst 0, 1) := by decide +kernel
theorem dX6_passes_104 : decode cX6_passes 104 = .ok (.invokevirtual 36, 3) := by decide +kernel
theorem dX6_passes_107 : decode cX6_passes 107 = .ok (.iconst 4, 1) := by decide +kernel
theorem dX6_passes_108 : decode cX6_passes 108 = .ok (.if_icmp .ne 8, 3) := by decide +kernel
theorem dX6_passes_111 : decode cX6_passes 111 = .ok (.bipush 11, 2) := by decide +kernel
theorem dX6_passes_113 : decode cX6_passes 113 = .ok (.goto 5, 3) := by decide +kernel
theorem dX6_passes_116 : decode cX6_passes 116 = .ok (.bipush 10, 2) := by decide +kernel
theorem dX6_passes_118 : decode cX6_passes 118 = .ok (.invokevirtual 63, 3) := by decide +kernel
theorem dX6_passes_121 : decode cX6_passes 121 = .ok (.return_, 1) := by decide +kernel
theorem dX6_ends_0 : decode cX6_ends 0 = .ok (.aload_n 0, 1) := by decide +kernel
theorem dX6_ends_1 : decode cX6_ends 1 = .ok (.iload_n 1, 1) := by decide +kernel
theorem dX6_ends_2 : decode cX6_ends 2 = .ok (.invokevirtual 70, 3) := by decide +kernel
theorem dX6_ends_5 : decode cX6_ends 5 = .ok (.aload_n 0, 1) := by decide +kernel
theorem dX6_ends_6 : decode cX6_ends 6 = .ok (.iload_n 1, 1) := by decide +kernel
theorem dX6_ends_7 : decode cX6_ends 7 = .ok (.bipush 6, 2) := by decide +kernel
theorem dX6_ends_9 : decode cX6_ends 9 = .ok (.iconst 4, 1) := by decide +kernel
theorem dX6_ends_10 : decode cX6_ends 10 = .ok (.invokevirtual 59, 3) := by decide +kernel
theorem dX6_ends_13 : decode cX6_ends 13 = .ok (.aload_n 0, 1) := by decide +kernel
theorem dX6_ends_14 : decode cX6_ends 14 = .ok (.iload_n 1, 1) := by decide +kernel
theorem dX6_ends_15 : decode cX6_ends 15 = .ok (.bipush 9, 2) := by decide +kernel
theorem dX6_ends_17 : decode cX6_ends 17 = .ok (.iload_n 2, 1) := by decide +kernel
theorem dX6_ends_18 : decode cX6_ends 18 = .ok (.invokevirtual 59, 3) := by decide +kernel
theorem dX6_ends_21 : decode cX6_ends 21 = .ok (.iconst 0, 1) := by decide +kernel
theorem dX6_ends_22 : decode cX6_ends 22 = .ok (.istore_n 3, 1) := by decide +kernel
theorem dX6_ends_23 : decode cX6_ends 23 = .ok (.iload_n 3, 1) := by decide +kernel
theorem dX6_ends_24 : decode cX6_ends 24 = .ok (.bipush 100, 2) := by decide +kernel
theorem dX6_ends_26 : decode cX6_ends 26 = .ok (.if_icmp .ge 42, 3) := by decide +kernel
theorem dX6_ends_29 : decode cX6_ends 29 = .ok (.aload_n 0, 1) := by decide +kernel
theorem dX6_ends_30 : decode cX6_ends 30 = .ok (.getfield 8, 3) := by decide +kernel
theorem dX6_ends_33 : decode cX6_ends 33 = .ok (.sipush 240, 3) := by decide +kernel
theorem dX6_ends_36 : decode cX6_ends 36 = .ok (.iload_n 3, 1) := by decide +kernel
theorem dX6_ends_37 : decode cX6_ends 37 = .ok (.iadd, 1) := by decide +kernel
theorem dX6_ends_38 : decode cX6_ends 38 = .ok (.iaload, 1) := by decide +kernel
theorem dX6_ends_39 : decode cX6_ends 39 = .ok (.iload_n 1, 1) := by decide +kernel
theorem dX6_ends_40 : decode cX6_ends 40 = .ok (.if_icmp .eq 6, 3) := by decide +kernel
theorem dX6_ends_43 : decode cX6_ends 43 = .ok (.goto 19, 3) := by decide +kernel
theorem dX6_ends_46 : decode cX6_ends 46 = .ok (.aload_n 0, 1) := by decide +kernel
theorem dX6_ends_47 : decode cX6_ends 47 = .ok (.getfield 8, 3) := by decide +kernel
theorem dX6_ends_50 : decode cX6_ends 50 = .ok (.sipush 240, 3) := by decide +kernel
theorem dX6_ends_53 : decode cX6_ends 53 = .ok (.iload_n 3, 1) := by decide +kernel
theorem dX6_ends_54 : decode cX6_ends 54 = .ok (.iadd, 1) := by decide +kernel
theorem dX6_ends_55 : decode cX6_ends 55 = .ok (.iconst (-1), 1) := by decide +kernel
theorem dX6_ends_56 : decode cX6_ends 56 = .ok (.iastore, 1) := by decide +kernel
theorem dX6_ends_57 : decode cX6_ends 57 = .ok (.aload_n 0, 1) := by decide +kernel
theorem dX6_ends_58 : decode cX6_ends 58 = .ok (.iload_n 3, 1) := by decide +kernel
theorem dX6_ends_59 : decode cX6_ends 59 = .ok (.invokevirtual 73, 3) := by decide +kernel
theorem dX6_ends_62 : decode cX6_ends 62 = .ok (.iinc 3 1, 3) := by decide +kernel
theorem dX6_ends_65 : decode cX6_ends 65 = .ok (.goto (-42), 3) := by decide +kernel
theorem dX6_ends_68 : decode cX6_ends 68 = .ok (.return_, 1) := by decide +kernel
theorem dX6_ringBell_0 : decode cX6_ringBell 0 = .ok (.iconst 0, 1) := by decide +kernel
theorem dX6_ringBell_1 : decode cX6_ringBell 1 = .ok (.istore_n 2, 1) := by decide +kernel
theorem dX6_ringBell_2 : decode cX6_ringBell 2 = .ok (.iconst 0, 1) := by decide +kernel
theorem dX6_ringBell_3 : decode cX6_ringBell 3 = .ok (.istore_n 3, 1) := by decide +kernel
theorem dX6_ringBell_4 : decode cX6_ringBell 4 = .ok (.iload_n 3, 1) := by decide +kernel
theorem dX6_ringBell_5 : decode cX6_ringBell 5 = .ok (.aload_n 0, 1) := by decide +kernel
theorem dX6_ringBell_6 : decode cX6_ringBell 6 = .ok (.getfield 8, 3) := by decide +kernel
theorem dX6_ringBell_9 : decode cX6_ringBell 9 = .ok (.iconst 1, 1) := by decide +kernel
theorem dX6_ringBell_10 : decode cX6_ringBell 10 = .ok (.iaload, 1) := by decide +kernel
theorem dX6_ringBell_11 : decode cX6_ringBell 11 = .ok (.if_icmp .ge 42, 3) := by decide +kernel
theorem dX6_ringBell_14 : decode cX6_ringBell 14 = .ok (.aload_n 0, 1) := by decide +kernel
theorem dX6_ringBell_15 : decode cX6_ringBell 15 = .ok (.iload_n 3, 1) := by decide +kernel
theorem dX6_ringBell_16 : decode cX6_ringBell 16 = .ok (.bipush 6, 2) := by decide +kernel
theorem dX6_ringBell_18 : decode cX6_ringBell 18 = .ok (.invokevirtual 36, 3) := by decide +kernel
theorem dX6_ringBell_21 : decode cX6_ringBell 21 = .ok (.iconst 2, 1) := by decide +kernel
theorem dX6_ringBell_22 : decode cX6_ringBell 22 = .ok (.if_icmp .ne 25, 3) := by decide +kernel
theorem dX6_ringBell_25 : decode cX6_ringBell 25 = .ok (.aload_n 0, 1) := by decide +kernel
theorem dX6_ringBell_26 : decode cX6_ringBell 26 = .ok (.iload_n 3, 1) := by decide +kernel
theorem dX6_ringBell_27 : decode cX6_ringBell 27 = .ok (.bipush 7, 2) := by decide +kernel
theorem dX6_ringBell_29 : decode cX6_ringBell 29 = .ok (.invokevirtual 36, 3) := by decide +kernel
theorem dX6_ringBell_32 : decode cX6_ringBell 32 = .ok (.iload_n 1, 1) := by decide +kernel
theorem dX6_ringBell_33 : decode cX6_ringBell 33 = .ok (.if_icmp .eq 6, 3) := by decide +kernel
theorem dX6_ringBell_36 : decode cX6_ringBell 36 = .ok (.goto 11, 3) := by decide +kernel
theorem dX6_ringBell_39 : decode cX6_ringBell 39 = .ok (.aload_n 0, 1) := by decide +kernel
theorem dX6_ringBell_40 : decode cX6_ringBell 40 = .ok (.iload_n 3, 1) := by decide +kernel
theorem dX6_ringBell_41 : decode cX6_ringBell 41 = .ok (.invokevirtual 70, 3) := by decide +kernel
theorem dX6_ringBell_44 : decode cX6_ringBell 44 = .ok (.iinc 2 1, 3) := by decide +kernel
theorem dX6_ringBell_47 : decode cX6_ringBell 47 = .ok (.iinc 3 1, 3) := by decide +kernel
theorem dX6_ringBell_50 : decode cX6_ringBell 50 = .ok (.goto (-46), 3) := by decide +kernel
theorem dX6_ringBell_53 : decode cX6_ringBell 53 = .ok (.iload_n 2, 1) := by decide +kernel
theorem dX6_ringBell_54 : decode cX6_ringBell 54 = .ok (.ireturn, 1) := by decide +kernel
theorem dX6_added_0 : decode cX6_added 0 = .ok (.aload_n 0, 1) := by decide +kernel
theorem dX6_added_1 : decode cX6_added 1 = .ok (.getfield 8, 3) := by decide +kernel
theorem dX6_added_4 : decode cX6_added 4 = .ok (.iconst 1, 1) := by decide +kernel
theorem dX6_added_5 : decode cX6_added 5 = .ok (.iaload, 1) := by decide +kernel
theorem dX6_added_6 : decode cX6_added 6 = .ok (.istore 6, 2) := by decide +kernel
theorem dX6_added_8 : decode cX6_added 8 = .ok (.lconst 0, 1) := by decide +kernel
theorem dX6_added_9 : decode cX6_added 9 = .ok (.lstore 7, 2) := by decide +kernel
theorem dX6_added_11 : decode cX6_added 11 = .ok (.iconst 0, 1) := by decide +kernel
theorem dX6_added_12 : decode cX6_added 12 = .ok (.istore 9, 2) := by decide +kernel
theorem dX6_added_14 : decode cX6_added 14 = .ok (.iconst 0, 1) := by decide +kernel
theorem dX6_added_15 : decode cX6_added 15 = .ok (.istore 10, 2) := by decide +kernel
theorem dX6_added_17 : decode cX6_added 17 = .ok (.iload 10, 2) := by decide +kernel
theorem dX6_added_19 : decode cX6_added 19 = .ok (.iload 6, 2) := by decide +kernel
theorem dX6_added_21 : decode cX6_added 21 = .ok (.if_icmp .ge 54, 3) := by decide +kernel
theorem dX6_added_24 : decode cX6_added 24 = .ok (.aload_n 0, 1) := by decide +kernel
theorem dX6_added_25 : decode cX6_added 25 = .ok (.iload 10, 2) := by decide +kernel
theorem dX6_added_27 : decode cX6_added 27 = .ok (.bipush 6, 2) := by decide +kernel
theorem dX6_added_29 : decode cX6_added 29 = .ok (.invokevirtual 36, 3) := by decide +kernel
theorem dX6_added_32 : decode cX6_added 32 = .ok (.iconst 4, 1) := by decide +kernel
theorem dX6_added_33 : decode cX6_added 33 = .ok (.if_icmp .eq 36, 3) := by decide +kernel
theorem dX6_added_36 : decode cX6_added 36 = .ok (.iload 9, 2) := by decide +kernel
theorem dX6_added_38 : decode cX6_added 38 = .ok (.ifCond .eq 19, 3) := by decide +kernel
theorem dX6_added_41 : decode cX6_added 41 = .ok (.aload_n 0, 1) := by decide +kernel
theorem dX6_added_42 : decode cX6_added 42 = .ok (.getfield 14, 3) := by decide +kernel
theorem dX6_added_45 : decode cX6_added 45 = .ok (.iload 10, 2) := by decide +kernel
theorem dX6_added_47 : decode cX6_added 47 = .ok (.laload, 1) := by decide +kernel
theorem dX6_added_48 : decode cX6_added 48 = .ok (.lload 7, 2) := by decide +kernel
theorem dX6_added_50 : decode cX6_added 50 = .ok (.lcmp, 1) := by decide +kernel
theorem dX6_added_51 : decode cX6_added 51 = .ok (.ifCond .lt 6, 3) := by decide +kernel
theorem dX6_added_54 : decode cX6_added 54 = .ok (.goto 15, 3) := by decide +kernel
theorem dX6_added_57 : decode cX6_added 57 = .ok (.aload_n 0, 1) := by decide +kernel
theorem dX6_added_58 : decode cX6_added 58 = .ok (.getfield 14, 3) := by decide +kernel
theorem dX6_added_61 : decode cX6_added 61 = .ok (.iload 10, 2) := by decide +kernel
theorem dX6_added_63 : decode cX6_added 63 = .ok (.laload, 1) := by decide +kernel
theorem dX6_added_64 : decode cX6_added 64 = .ok (.lstore 7, 2) := by decide +kernel
theorem dX6_added_66 : decode cX6_added 66 = .ok (.iconst 1, 1) := by decide +kernel
theorem dX6_added_67 : decode cX6_added 67 = .ok (.istore 9, 2) := by decide +kernel
theorem dX6_added_69 : decode cX6_added 69 = .ok (.iinc 10 1, 3) := by decide +kernel
theorem dX6_added_72 : decode cX6_added 72 = .ok (.goto (-55), 3) := by decide +kernel
theorem dX6_added_75 : decode cX6_added 75 = .ok (.aload_n 0, 1) := by decide +kernel
theorem dX6_added_76 : decode cX6_added 76 = .ok (.getfield 8, 3) := by decide +kernel
theorem dX6_added_79 : decode cX6_added 79 = .ok (.iconst 1, 1) := by decide +kernel
theorem dX6_added_80 : decode cX6_added 80 = .ok (.dup2, 1) := by decide +kernel
theorem dX6_added_81 : decode cX6_added 81 = .ok (.iaload, 1) := by decide +kernel
theorem dX6_added_82 : decode cX6_added 82 = .ok (.iconst 1, 1) := by decide +kernel
theorem dX6_added_83 : decode cX6_added 83 = .ok (.iadd, 1) := by decide +kernel
theorem dX6_added_84 : decode cX6_added 84 = .ok (.iastore, 1) := by decide +kernel
theorem dX6_added_85 : decode cX6_added 85 = .ok (.iconst 0, 1) := by decide +kernel
theorem dX6_added_86 : decode cX6_added 86 = .ok (.istore 10, 2) := by decide +kernel
theorem dX6_added_88 : decode cX6_added 88 = .ok (.iload 10, 2) := by decide +kernel
theorem dX6_added_90 : decode cX6_added 90 = .ok (.bipush 20, 2) := by decide +kernel
theorem dX6_added_92 : decode cX6_added 92 = .ok (.if_icmp .ge 18, 3) := by decide +kernel
theorem dX6_added_95 : decode cX6_added 95 = .ok (.aload_n 0, 1) := by decide +kernel
theorem dX6_added_96 : decode cX6_added 96 = .ok (.iload 6, 2) := by decide +kernel
theorem dX6_added_98 : decode cX6_added 98 = .ok (.iload 10, 2) := by decide +kernel
theorem dX6_added_100 : decode cX6_added 100 = .ok (.iconst 0, 1) := by decide +kernel
theorem dX6_added_101 : decode cX6_added 101 = .ok (.invokevirtual 59, 3) := by decide +kernel
theorem dX6_added_104 : decode cX6_added 104 = .ok (.iinc 10 1, 3) := by decide +kernel
theorem dX6_added_107 : decode cX6_added 107 = .ok (.goto (-19), 3) := by decide +kernel
theorem dX6_added_110 : decode cX6_added 110 = .ok (.aload_n 0, 1) := by decide +kernel
theorem dX6_added_111 : decode cX6_added 111 = .ok (.getfield 14, 3) := by decide +kernel
theorem dX6_added_114 : decode cX6_added 114 = .ok (.iload 6, 2) := by decide +kernel
theorem dX6_added_116 : decode cX6_added 116 = .ok (.lload 7, 2) := by decide +kernel
theorem dX6_added_118 : decode cX6_added 118 = .ok (.lastore, 1) := by decide +kernel
theorem dX6_added_119 : decode cX6_added 119 = .ok (.aload_n 0, 1) := by decide +kernel
theorem dX6_added_120 : decode cX6_added 120 = .ok (.iload 6, 2) := by decide +kernel
theorem dX6_added_122 : decode cX6_added 122 = .ok (.iconst 0, 1) := by decide +kernel
theorem dX6_added_123 : decode cX6_added 123 = .ok (.iload_n 1, 1) := by decide +kernel
theorem dX6_added_124 : decode cX6_added 124 = .ok (.invokevirtual 59, 3) := by decide +kernel
theorem dX6_added_127 : decode cX6_added 127 = .ok (.aload_n 0, 1) := by decide +kernel
theorem dX6_added_128 : decode cX6_added 128 = .ok (.iload 6, 2) := by decide +kernel
theorem dX6_added_130 : decode cX6_added 130 = .ok (.iconst 1, 1) := by decide +kernel
theorem dX6_added_131 : decode cX6_added 131 = .ok (.iload_n 2, 1) := by decide +kernel
theorem dX6_added_132 : decode cX6_added 132 = .ok (.invokevirtual 59, 3) := by decide +kernel
theorem dX6_added_135 : decode cX6_added 135 = .ok (.aload_n 0, 1) := by decide +kernel
theorem dX6_added_136 : decode cX6_added 136 = .ok (.iload 6, 2) := by decide +kernel
theorem dX6_added_138 : decode cX6_added 138 = .ok (.iconst 2, 1) := by decide +kernel
theorem dX6_added_139 : decode cX6_added 139 = .ok (.iload_n 3, 1) := by decide +kernel
theorem dX6_added_140 : decode cX6_added 140 = .ok (.invokevirtual 59, 3) := by decide +kernel
theorem dX6_added_143 : decode cX6_added 143 = .ok (.aload_n 0, 1) := by decide +kernel
theorem dX6_added_144 : decode cX6_added 144 = .ok (.iload 6, 2) := by decide +kernel
theorem dX6_added_146 : decode cX6_added 146 = .ok (.bipush 7, 2) := by decide +kernel
theorem dX6_added_148 : decode cX6_added 148 = .ok (.iconst (-1), 1) := by decide +kernel
theorem dX6_added_149 : decode cX6_added 149 = .ok (.invokevirtual 59, 3) := by decide +kernel
theorem dX6_added_152 : decode cX6_added 152 = .ok (.aload_n 0, 1) := by decide +kernel
theorem dX6_added_153 : decode cX6_added 153 = .ok (.iload 6, 2) := by decide +kernel
theorem dX6_added_155 : decode cX6_added 155 = .ok (.bipush 8, 2) := by decide +kernel
theorem dX6_added_157 : decode cX6_added 157 = .ok (.iconst (-1), 1) := by decide +kernel
theorem dX6_added_158 : decode cX6_added 158 = .ok (.invokevirtual 59, 3) := by decide +kernel
theorem dX6_added_161 : decode cX6_added 161 = .ok (.aload_n 0, 1) := by decide +kernel
theorem dX6_added_162 : decode cX6_added 162 = .ok (.iload 6, 2) := by decide +kernel
theorem dX6_added_164 : decode cX6_added 164 = .ok (.bipush 14, 2) := by decide +kernel
theorem dX6_added_166 : decode cX6_added 166 = .ok (.iconst (-1), 1) := by decide +kernel
theorem dX6_added_167 : decode cX6_added 167 = .ok (.invokevirtual 59, 3) := by decide +kernel
theorem dX6_added_170 : decode cX6_added 170 = .ok (.aload_n 0, 1) := by decide +kernel
theorem dX6_added_171 : decode cX6_added 171 = .ok (.iload 6, 2) := by decide +kernel
theorem dX6_added_173 : decode cX6_added 173 = .ok (.bipush 10, 2) := by decide +kernel
theorem dX6_added_175 : decode cX6_added 175 = .ok (.iload 4, 2) := by decide +kernel
theorem dX6_added_177 : decode cX6_added 177 = .ok (.invokevirtual 59, 3) := by decide +kernel
theorem dX6_added_180 : decode cX6_added 180 = .ok (.aload_n 0, 1) := by decide +kernel
theorem dX6_added_181 : decode cX6_added 181 = .ok (.iload 6, 2) := by decide +kernel
theorem dX6_added_183 : decode cX6_added 183 = .ok (.bipush 11, 2) := by decide +kernel
theorem dX6_added_185 : decode cX6_added 185 = .ok (.iload 5, 2) := by decide +kernel
theorem dX6_added_187 : decode cX6_added 187 = .ok (.invokevirtual 59, 3) := by decide +kernel
theorem dX6_added_190 : decode cX6_added 190 = .ok (.aload_n 0, 1) := by decide +kernel
theorem dX6_added_191 : decode cX6_added 191 = .ok (.iload 6, 2) := by decide +kernel
theorem dX6_added_193 : decode cX6_added 193 = .ok (.bipush 12, 2) := by decide +kernel
theorem dX6_added_195 : decode cX6_added 195 = .ok (.aload_n 0, 1) := by decide +kernel
theorem dX6_added_196 : decode cX6_added 196 = .ok (.getfield 8, 3) := by decide +kernel
theorem dX6_added_199 : decode cX6_added 199 = .ok (.iconst 0, 1) := by decide +kernel
theorem dX6_added_200 : decode cX6_added 200 = .ok (.iaload, 1) := by decide +kernel
theorem dX6_added_201 : decode cX6_added 201 = .ok (.iload 4, 2) := by decide +kernel
theorem dX6_added_203 : decode cX6_added 203 = .ok (.iadd, 1) := by decide +kernel
theorem dX6_added_204 : decode cX6_added 204 = .ok (.invokevirtual 59, 3) := by decide +kernel
theorem dX6_added_207 : decode cX6_added 207 = .ok (.aload_n 0, 1) := by decide +kernel
theorem dX6_added_208 : decode cX6_added 208 = .ok (.iload 6, 2) := by decide +kernel
theorem dX6_added_210 : decode cX6_added 210 = .ok (.bipush 13, 2) := by decide +kernel
theorem dX6_added_212 : decode cX6_added 212 = .ok (.iload 5, 2) := by decide +kernel
theorem dX6_added_214 : decode cX6_added 214 = .ok (.invokevirtual 59, 3) := by decide +kernel
theorem dX6_added_217 : decode cX6_added 217 = .ok (.iload 6, 2) := by decide +kernel
theorem dX6_added_219 : decode cX6_added 219 = .ok (.ireturn, 1) := by decide +kernel
theorem dX6_isOf_0 : decode cX6_isOf 0 = .ok (.iload_n 1, 1) := by decide +kernel
theorem dX6_isOf_1 : decode cX6_isOf 1 = .ok (.ifCond .eq 28, 3) := by decide +kernel
theorem dX6_isOf_4 : decode cX6_isOf 4 = .ok (.iload_n 1, 1) := by decide +kernel
theorem dX6_isOf_5 : decode cX6_isOf 5 = .ok (.iload_n 0, 1) := by decide +kernel
theorem dX6_isOf_6 : decode cX6_isOf 6 = .ok (.if_icmp .eq 23, 3) := by decide +kernel
theorem dX6_isOf_9 : decode cX6_isOf 9 = .ok (.iload_n 1, 1) := by decide +kernel
theorem dX6_isOf_10 : decode cX6_isOf 10 = .ok (.iconst 1, 1) := by decide +kernel
theorem dX6_isOf_11 : decode cX6_isOf 11 = .ok (.if_icmp .ne 8, 3) := by decide +kernel
theorem dX6_isOf_14 : decode cX6_isOf 14 = .ok (.iload_n 0, 1) := by decide +kernel
theorem dX6_isOf_15 : decode cX6_isOf 15 = .ok (.iconst 2, 1) := by decide +kernel
theorem dX6_isOf_16 : decode cX6_isOf 16 = .ok (.if_icmp .eq 13, 3) := by decide +kernel
theorem dX6_isOf_19 : decode cX6_isOf 19 = .ok (.iload_n 1, 1) := by decide +kernel
theorem dX6_isOf_20 : decode cX6_isOf 20 = .ok (.iconst 3, 1) := by decide +kernel
theorem dX6_isOf_21 : decode cX6_isOf 21 = .ok (.if_icmp .ne 12, 3) := by decide +kernel
theorem dX6_isOf_24 : decode cX6_isOf 24 = .ok (.iload_n 0, 1) := by decide +kernel
theorem dX6_isOf_25 : decode cX6_isOf 25 = .ok (.iconst 4, 1) := by decide +kernel
theorem dX6_isOf_26 : decode cX6_isOf 26 = .ok (.if_icmp .ne 7, 3) := by decide +kernel
theorem dX6_isOf_29 : decode cX6_isOf 29 = .ok (.iconst 1, 1) := by decide +kernel
theorem dX6_isOf_30 : decode cX6_isOf 30 = .ok (.goto 4, 3) := by decide +kernel
theorem dX6_isOf_33 : decode cX6_isOf 33 = .ok (.iconst 0, 1) := by decide +kernel
theorem dX6_isOf_34 : decode cX6_isOf 34 = .ok (.ireturn, 1) := by decide +kernel
theorem dX6_pay_0 : decode cX6_pay 0 = .ok (.sipush 1000, 3) := by decide +kernel
theorem dX6_pay_3 : decode cX6_pay 3 = .ok (.aload_n 0, 1) := by decide +kernel
theorem dX6_pay_4 : decode cX6_pay 4 = .ok (.iload_n 1, 1) := by decide +kernel
theorem dX6_pay_5 : decode cX6_pay 5 = .ok (.iconst 3, 1) := by decide +kernel
theorem dX6_pay_6 : decode cX6_pay 6 = .ok (.invokevirtual 36, 3) := by decide +kernel
theorem dX6_pay_9 : decode cX6_pay 9 = .ok (.iadd, 1) := by decide +kernel
theorem dX6_pay_10 : decode cX6_pay 10 = .ok (.istore_n 2, 1) := by decide +kernel
theorem dX6_pay_11 : decode cX6_pay 11 = .ok (.aload_n 0, 1) := by decide +kernel
theorem dX6_pay_12 : decode cX6_pay 12 = .ok (.getfield 14, 3) := by decide +kernel
theorem dX6_pay_15 : decode cX6_pay 15 = .ok (.iload_n 1, 1) := by decide +kernel
theorem dX6_pay_16 : decode cX6_pay 16 = .ok (.dup2, 1) := by decide +kernel
theorem dX6_pay_17 : decode cX6_pay 17 = .ok (.laload, 1) := by decide +kernel
theorem dX6_pay_18 : decode cX6_pay 18 = .ok (.iload_n 2, 1) := by decide +kernel
theorem dX6_pay_19 : decode cX6_pay 19 = .ok (.aload_n 0, 1) := by decide +kernel
theorem dX6_pay_20 : decode cX6_pay 20 = .ok (.iload_n 1, 1) := by decide +kernel
theorem dX6_pay_21 : decode cX6_pay 21 = .ok (.iconst 2, 1) := by decide +kernel
theorem dX6_pay_22 : decode cX6_pay 22 = .ok (.invokevirtual 36, 3) := by decide +kernel
theorem dX6_pay_25 : decode cX6_pay 25 = .ok (.idiv, 1) := by decide +kernel
theorem dX6_pay_26 : decode cX6_pay 26 = .ok (.i2l, 1) := by decide +kernel
theorem dX6_pay_27 : decode cX6_pay 27 = .ok (.ladd, 1) := by decide +kernel
theorem dX6_pay_28 : decode cX6_pay 28 = .ok (.lastore, 1) := by decide +kernel
theorem dX6_pay_29 : decode cX6_pay 29 = .ok (.aload_n 0, 1) := by decide +kernel
theorem dX6_pay_30 : decode cX6_pay 30 = .ok (.iload_n 1, 1) := by decide +kernel
theorem dX6_pay_31 : decode cX6_pay 31 = .ok (.iconst 3, 1) := by decide +kernel
theorem dX6_pay_32 : decode cX6_pay 32 = .ok (.iload_n 2, 1) := by decide +kernel
theorem dX6_pay_33 : decode cX6_pay 33 = .ok (.aload_n 0, 1) := by decide +kernel
theorem dX6_pay_34 : decode cX6_pay 34 = .ok (.iload_n 1, 1) := by decide +kernel
theorem dX6_pay_35 : decode cX6_pay 35 = .ok (.iconst 2, 1) := by decide +kernel
theorem dX6_pay_36 : decode cX6_pay 36 = .ok (.invokevirtual 36, 3) := by decide +kernel
theorem dX6_pay_39 : decode cX6_pay 39 = .ok (.irem, 1) := by decide +kernel
theorem dX6_pay_40 : decode cX6_pay 40 = .ok (.invokevirtual 59, 3) := by decide +kernel
theorem dX6_pay_43 : decode cX6_pay 43 = .ok (.aload_n 0, 1) := by decide +kernel
theorem dX6_pay_44 : decode cX6_pay 44 = .ok (.iconst 0, 1) := by decide +kernel
theorem dX6_pay_45 : decode cX6_pay 45 = .ok (.invokevirtual 63, 3) := by decide +kernel
theorem dX6_pay_48 : decode cX6_pay 48 = .ok (.iconst 0, 1) := by decide +kernel
theorem dX6_pay_49 : decode cX6_pay 49 = .ok (.ireturn, 1) := by decide +kernel
theorem dX6_pays_0 : decode cX6_pays 0 = .ok (.aload_n 0, 1) := by decide +kernel
theorem dX6_pays_1 : decode cX6_pays 1 = .ok (.iload_n 1, 1) := by decide +kernel
theorem dX6_pays_2 : decode cX6_pays 2 = .ok (.iconst 0, 1) := by decide +kernel
theorem dX6_pays_3 : decode cX6_pays 3 = .ok (.invokevirtual 36, 3) := by decide +kernel
theorem dX6_pays_6 : decode cX6_pays 6 = .ok (.istore_n 2, 1) := by decide +kernel
theorem dX6_pays_7 : decode cX6_pays 7 = .ok (.aload_n 0, 1) := by decide +kernel
theorem dX6_pays_8 : decode cX6_pays 8 = .ok (.iload_n 1, 1) := by decide +kernel
theorem dX6_pays_9 : decode cX6_pays 9 = .ok (.invokevirtual 43, 3) := by decide +kernel
theorem dX6_pays_12 : decode cX6_pays 12 = .ok (.istore_n 3, 1) := by decide +kernel
theorem dX6_pays_13 : decode cX6_pays 13 = .ok (.aload_n 0, 1) := by decide +kernel
theorem dX6_pays_14 : decode cX6_pays 14 = .ok (.iload_n 3, 1) := by decide +kernel
theorem dX6_pays_15 : decode cX6_pays 15 = .ok (.ifCond .eq 8, 3) := by decide +kernel
theorem dX6_pays_18 : decode cX6_pays 18 = .ok (.bipush 7, 2) := by decide +kernel
theorem dX6_pays_20 : decode cX6_pays 20 = .ok (.goto 5, 3) := by decide +kernel
theorem dX6_pays_23 : decode cX6_pays 23 = .ok (.bipush 6, 2) := by decide +kernel
theorem dX6_pays_25 : decode cX6_pays 25 = .ok (.invokevirtual 63, 3) := by decide +kernel
theorem dX6_pays_28 : decode cX6_pays 28 = .ok (.iload_n 3, 1) := by decide +kernel
theorem dX6_pays_29 : decode cX6_pays 29 = .ok (.ifCond .eq 17, 3) := by decide +kernel
theorem dX6_pays_32 : decode cX6_pays 32 = .ok (.aload_n 0, 1) := by decide +kernel
theorem dX6_pays_33 : decode cX6_pays 33 = .ok (.iload_n 1, 1) := by decide +kernel
theorem dX6_pays_34 : decode cX6_pays 34 = .ok (.bipush 13, 2) := by decide +kernel
theorem dX6_pays_36 : decode cX6_pays 36 = .ok (.invokevirtual 36, 3) := by decide +kernel
theorem dX6_pays_39 : decode cX6_pays 39 = .ok (.ifCond .le 7, 3) := by decide +kernel
theorem dX6_pays_42 : decode cX6_pays 42 = .ok (.iconst 1, 1) := by decide +kernel
theorem dX6_pays_43 : decode cX6_pays 43 = .ok (.goto 4, 3) := by decide +kernel
theorem dX6_pays_46 : decode cX6_pays 46 = .ok (.iconst 0, 1) := by decide +kernel
theorem dX6_pays_47 : decode cX6_pays 47 = .ok (.istore 4, 2) := by decide +kernel
theorem dX6_pays_49 : decode cX6_pays 49 = .ok (.iload 4, 2) := by decide +kernel
theorem dX6_pays_51 : decode cX6_pays 51 = .ok (.ifCond .eq 19, 3) := by decide +kernel
theorem dX6_pays_54 : decode cX6_pays 54 = .ok (.aload_n 0, 1) := by decide +kernel
theorem dX6_pays_55 : decode cX6_pays 55 = .ok (.iload_n 1, 1) := by decide +kernel
theorem dX6_pays_56 : decode cX6_pays 56 = .ok (.bipush 13, 2) := by decide +kernel
theorem dX6_pays_58 : decode cX6_pays 58 = .ok (.aload_n 0, 1) := by decide +kernel
theorem dX6_pays_59 : decode cX6_pays 59 = .ok (.iload_n 1, 1) := by decide +kernel
theorem dX6_pays_60 : decode cX6_pays 60 = .ok (.bipush 13, 2) := by decide +kernel
theorem dX6_pays_62 : decode cX6_pays 62 = .ok (.invokevirtual 36, 3) := by decide +kernel
theorem dX6_pays_65 : decode cX6_pays 65 = .ok (.iconst 1, 1) := by decide +kernel
theorem dX6_pays_66 : decode cX6_pays 66 = .ok (.isub, 1) := by decide +kernel
theorem dX6_pays_67 : decode cX6_pays 67 = .ok (.invokevirtual 59, 3) := by decide +kernel
theorem dX6_pays_70 : decode cX6_pays 70 = .ok (.iload 4, 2) := by decide +kernel
theorem dX6_pays_72 : decode cX6_pays 72 = .ok (.ifCond .eq 9, 3) := by decide +kernel
theorem dX6_pays_75 : decode cX6_pays 75 = .ok (.iload_n 2, 1) := by decide +kernel
theorem dX6_pays_76 : decode cX6_pays 76 = .ok (.iconst 1, 1) := by decide +kernel
theorem dX6_pays_77 : decode cX6_pays 77 = .ok (.if_icmp .ne 4, 3) := by decide +kernel
theorem dX6_pays_80 : decode cX6_pays 80 = .ok (.return_, 1) := by decide +kernel
theorem dX6_pays_81 : decode cX6_pays 81 = .ok (.iload_n 2, 1) := by decide +kernel
theorem dX6_pays_82 : decode cX6_pays 82 = .ok (.iconst 2, 1) := by decide +kernel
theorem dX6_pays_83 : decode cX6_pays 83 = .ok (.if_icmp .ne 8, 3) := by decide +kernel
theorem dX6_pays_86 : decode cX6_pays 86 = .ok (.aload_n 0, 1) := by decide +kernel
theorem dX6_pays_87 : decode cX6_pays 87 = .ok (.iconst 1, 1) := by decide +kernel
theorem dX6_pays_88 : decode cX6_pays 88 = .ok (.invokevirtual 63, 3) := by decide +kernel
theorem dX6_pays_91 : decode cX6_pays 91 = .ok (.iload_n 2, 1) := by decide +kernel
theorem dX6_pays_92 : decode cX6_pays 92 = .ok (.iconst 4, 1) := by decide +kernel
theorem dX6_pays_93 : decode cX6_pays 93 = .ok (.if_icmp .ne 8, 3) := by decide +kernel
theorem dX6_pays_96 : decode cX6_pays 96 = .ok (.aload_n 0, 1) := by decide +kernel
theorem dX6_pays_97 : decode cX6_pays 97 = .ok (.iconst 2, 1) := by decide +kernel
theorem dX6_pays_98 : decode cX6_pays 98 = .ok (.invokevirtual 63, 3) := by decide +kernel
theorem dX6_pays_101 : decode cX6_pays 101 = .ok (.aload_n 0, 1) := by decide +kernel
theorem dX6_pays_102 : decode cX6_pays 102 = .ok (.iload_n 1, 1) := by decide +kernel
theorem dX6_pays_103 : decode cX6_pays 103 = .ok (.invokevirtual 76, 3) := by decide +kernel
theorem dX6_pays_106 : decode cX6_pays 106 = .ok (.istore 5, 2) := by decide +kernel
theorem dX6_pays_108 : decode cX6_pays 108 = .ok (.iload_n 2, 1) := by decide +kernel
theorem dX6_pays_109 : decode cX6_pays 109 = .ok (.iconst 4, 1) := by decide +kernel
theorem dX6_pays_110 : decode cX6_pays 110 = .ok (.if_icmp .ne 10, 3) := by decide +kernel
theorem dX6_pays_113 : decode cX6_pays 113 = .ok (.aload_n 0, 1) := by decide +kernel
theorem dX6_pays_114 : decode cX6_pays 114 = .ok (.iload_n 1, 1) := by decide +kernel
theorem dX6_pays_115 : decode cX6_pays 115 = .ok (.invokevirtual 76, 3) := by decide +kernel
theorem dX6_pays_118 : decode cX6_pays 118 = .ok (.istore 5, 2) := by decide +kernel
theorem dX6_pays_120 : decode cX6_pays 120 = .ok (.return_, 1) := by decide +kernel
theorem dX6_turn_0 : decode cX6_turn 0 = .ok (.aload_n 0, 1) := by decide +kernel
theorem dX6_turn_1 : decode cX6_turn 1 = .ok (.iload_n 1, 1) := by decide +kernel
theorem dX6_turn_2 : decode cX6_turn 2 = .ok (.invokevirtual 79, 3) := by decide +kernel
theorem dX6_turn_5 : decode cX6_turn 5 = .ok (.aload_n 0, 1) := by decide +kernel
theorem dX6_turn_6 : decode cX6_turn 6 = .ok (.iload_n 1, 1) := by decide +kernel
theorem dX6_turn_7 : decode cX6_turn 7 = .ok (.iconst 4, 1) := by decide +kernel
theorem dX6_turn_8 : decode cX6_turn 8 = .ok (.invokevirtual 36, 3) := by decide +kernel
theorem dX6_turn_11 : decode cX6_turn 11 = .ok (.ifCond .le 18, 3) := by decide +kernel
theorem dX6_turn_14 : decode cX6_turn 14 = .ok (.aload_n 0, 1) := by decide +kernel
theorem dX6_turn_15 : decode cX6_turn 15 = .ok (.iload_n 1, 1) := by decide +kernel
theorem dX6_turn_16 : decode cX6_turn 16 = .ok (.iconst 4, 1) := by decide +kernel
theorem dX6_turn_17 : decode cX6_turn 17 = .ok (.aload_n 0, 1) := by decide +kernel
theorem dX6_turn_18 : decode cX6_turn 18 = .ok (.iload_n 1, 1) := by decide +kernel
theorem dX6_turn_19 : decode cX6_turn 19 = .ok (.iconst 4, 1) := by decide +kernel
theorem dX6_turn_20 : decode cX6_turn 20 = .ok (.invokevirtual 36, 3) := by decide +kernel
theorem dX6_turn_23 : decode cX6_turn 23 = .ok (.iconst 1, 1) := by decide +kernel
theorem dX6_turn_24 : decode cX6_turn 24 = .ok (.isub, 1) := by decide +kernel
theorem dX6_turn_25 : decode cX6_turn 25 = .ok (.invokevirtual 59, 3) := by decide +kernel
theorem dX6_turn_28 : decode cX6_turn 28 = .ok (.return_, 1) := by decide +kernel
theorem dX6_turn_29 : decode cX6_turn 29 = .ok (.aload_n 0, 1) := by decide +kernel
theorem dX6_turn_30 : decode cX6_turn 30 = .ok (.iload_n 1, 1) := by decide +kernel
theorem dX6_turn_31 : decode cX6_turn 31 = .ok (.invokevirtual 82, 3) := by decide +kernel
theorem dX6_turn_34 : decode cX6_turn 34 = .ok (.istore_n 2, 1) := by decide +kernel
theorem dX6_turn_35 : decode cX6_turn 35 = .ok (.iload_n 2, 1) := by decide +kernel
theorem dX6_turn_36 : decode cX6_turn 36 = .ok (.ifCond .gt 9, 3) := by decide +kernel
theorem dX6_turn_39 : decode cX6_turn 39 = .ok (.iload_n 2, 1) := by decide +kernel
theorem dX6_turn_40 : decode cX6_turn 40 = .ok (.bipush (-2), 2) := by decide +kernel
theorem dX6_turn_42 : decode cX6_turn 42 = .ok (.if_icmp .ne 18, 3) := by decide +kernel
theorem dX6_turn_45 : decode cX6_turn 45 = .ok (.aload_n 0, 1) := by decide +kernel
theorem dX6_turn_46 : decode cX6_turn 46 = .ok (.iload_n 1, 1) := by decide +kernel
theorem dX6_turn_47 : decode cX6_turn 47 = .ok (.iload_n 2, 1) := by decide +kernel
theorem dX6_turn_48 : decode cX6_turn 48 = .ok (.ifCond .le 7, 3) := by decide +kernel
theorem dX6_turn_51 : decode cX6_turn 51 = .ok (.iload_n 2, 1) := by decide +kernel
theorem dX6_turn_52 : decode cX6_turn 52 = .ok (.goto 4, 3) := by decide +kernel
theorem dX6_turn_55 : decode cX6_turn 55 = .ok (.iconst 0, 1) := by decide +kernel
theorem dX6_turn_56 : decode cX6_turn 56 = .ok (.invokevirtual 85, 3) := by decide +kernel
theorem dX6_turn_59 : decode cX6_turn 59 = .ok (.return_, 1) := by decide +kernel
theorem dX6_turn_60 : decode cX6_turn 60 = .ok (.aload_n 0, 1) := by decide +kernel
theorem dX6_turn_61 : decode cX6_turn 61 = .ok (.iload_n 1, 1) := by decide +kernel
theorem dX6_turn_62 : decode cX6_turn 62 = .ok (.iconst 5, 1) := by decide +kernel
theorem dX6_turn_63 : decode cX6_turn 63 = .ok (.aload_n 0, 1) := by decide +kernel
theorem dX6_turn_64 : decode cX6_turn 64 = .ok (.iload_n 1, 1) := by decide +kernel
theorem dX6_turn_65 : decode cX6_turn 65 = .ok (.iconst 5, 1) := by decide +kernel
theorem dX6_turn_66 : decode cX6_turn 66 = .ok (.invokevirtual 36, 3) := by decide +kernel
theorem dX6_turn_69 : decode cX6_turn 69 = .ok (.iconst 2, 1) := by decide +kernel
theorem dX6_turn_70 : decode cX6_turn 70 = .ok (.iadd, 1) := by decide +kernel
theorem dX6_turn_71 : decode cX6_turn 71 = .ok (.invokevirtual 59, 3) := by decide +kernel
theorem dX6_turn_74 : decode cX6_turn 74 = .ok (.iload_n 2, 1) := by decide +kernel
theorem dX6_turn_75 : decode cX6_turn 75 = .ok (.iconst (-1), 1) := by decide +kernel
theorem dX6_turn_76 : decode cX6_turn 76 = .ok (.if_icmp .ne 4, 3) := by decide +kernel
theorem dX6_turn_79 : decode cX6_turn 79 = .ok (.return_, 1) := by decide +kernel
theorem dX6_turn_80 : decode cX6_turn 80 = .ok (.goto (-75), 3) := by decide +kernel
theorem dX6_act_0 : decode cX6_act 0 = .ok (.aload_n 0, 1) := by decide +kernel
theorem dX6_act_1 : decode cX6_act 1 = .ok (.iload_n 1, 1) := by decide +kernel
theorem dX6_act_2 : decode cX6_act 2 = .ok (.iconst 1, 1) := by decide +kernel
theorem dX6_act_3 : decode cX6_act 3 = .ok (.invokevirtual 36, 3) := by decide +kernel
theorem dX6_act_6 : decode cX6_act 6 = .ok (.istore_n 2, 1) := by decide +kernel
theorem dX6_act_7 : decode cX6_act 7 = .ok (.aload_n 0, 1) := by decide +kernel
theorem dX6_act_8 : decode cX6_act 8 = .ok (.iload_n 1, 1) := by decide +kernel
theorem dX6_act_9 : decode cX6_act 9 = .ok (.iconst 5, 1) := by decide +kernel
theorem dX6_act_10 : decode cX6_act 10 = .ok (.invokevirtual 36, 3) := by decide +kernel
theorem dX6_act_13 : decode cX6_act 13 = .ok (.istore_n 3, 1) := by decide +kernel
theorem dX6_act_14 : decode cX6_act 14 = .ok (.aload_n 0, 1) := by decide +kernel
theorem dX6_act_15 : decode cX6_act 15 = .ok (.getfield 8, 3) := by decide +kernel
theorem dX6_act_18 : decode cX6_act 18 = .ok (.sipush 340, 3) := by decide +kernel
theorem dX6_act_21 : decode cX6_act 21 = .ok (.iload_n 2, 1) := by decide +kernel
theorem dX6_act_22 : decode cX6_act 22 = .ok (.iadd, 1) := by decide +kernel
theorem dX6_act_23 : decode cX6_act 23 = .ok (.iaload, 1) := by decide +kernel
theorem dX6_act_24 : decode cX6_act 24 = .ok (.istore 4, 2) := by decide +kernel
theorem dX6_act_26 : decode cX6_act 26 = .ok (.iload 4, 2) := by decide +kernel
theorem dX6_act_28 : decode cX6_act 28 = .ok (.ifCond .ge 5, 3) := by decide +kernel
theorem dX6_act_31 : decode cX6_act 31 = .ok (.iconst 1, 1) := by decide +kernel
theorem dX6_act_32 : decode cX6_act 32 = .ok (.ireturn, 1) := by decide +kernel
theorem dX6_act_33 : decode cX6_act 33 = .ok (.iload_n 3, 1) := by decide +kernel
theorem dX6_act_34 : decode cX6_act 34 = .ok (.iload 4, 2) := by decide +kernel
theorem dX6_act_36 : decode cX6_act 36 = .ok (.if_icmp .lt 5, 3) := by decide +kernel
theorem dX6_act_39 : decode cX6_act 39 = .ok (.iconst 2, 1) := by decide +kernel
theorem dX6_act_40 : decode cX6_act 40 = .ok (.ireturn, 1) := by decide +kernel
theorem dX6_act_41 : decode cX6_act 41 = .ok (.aload_n 0, 1) := by decide +kernel
theorem dX6_act_42 : decode cX6_act 42 = .ok (.getfield 8, 3) := by decide +kernel
theorem dX6_act_45 : decode cX6_act 45 = .ok (.sipush 30000, 3) := by decide +kernel
theorem dX6_act_48 : decode cX6_act 48 = .ok (.sipush 1000, 3) := by decide +kernel
theorem dX6_act_51 : decode cX6_act 51 = .ok (.iload_n 2, 1) := by decide +kernel
theorem dX6_act_52 : decode cX6_act 52 = .ok (.imul, 1) := by decide +kernel
theorem dX6_act_53 : decode cX6_act 53 = .ok (.iadd, 1) := by decide +kernel
theorem dX6_act_54 : decode cX6_act 54 = .ok (.iload_n 3, 1) := by decide +kernel
theorem dX6_act_55 : decode cX6_act 55 = .ok (.iadd, 1) := by decide +kernel
theorem dX6_act_56 : decode cX6_act 56 = .ok (.iaload, 1) := by decide +kernel
theorem dX6_act_57 : decode cX6_act 57 = .ok (.istore 5, 2) := by decide +kernel
theorem dX6_act_59 : decode cX6_act 59 = .ok (.iload 5, 2) := by decide +kernel
theorem dX6_act_61 : decode cX6_act 61 = .ok (.i2l, 1) := by decide +kernel
theorem dX6_act_62 : decode cX6_act 62 = .ok (.lconst 0, 1) := by decide +kernel
theorem dX6_act_63 : decode cX6_act 63 = .ok (.ldc2_w 89, 3) := by decide +kernel
theorem dX6_act_66 : decode cX6_act 66 = .ok (.invokestatic 32, 3) := by decide +kernel
theorem dX6_act_69 : decode cX6_act 69 = .ok (.ifCond .ne 6, 3) := by decide +kernel
theorem dX6_act_72 : decode cX6_act 72 = .ok (.bipush 10, 2) := by decide +kernel
theorem dX6_act_74 : decode cX6_act 74 = .ok (.ireturn, 1) := by decide +kernel
theorem dX6_act_75 : decode cX6_act 75 = .ok (.iload 5, 2) := by decide +kernel
theorem dX6_act_77 : decode cX6_act 77 = .ok (.ifCond .ne 6, 3) := by decide +kernel
theorem dX6_act_80 : decode cX6_act 80 = .ok (.bipush (-2), 2) := by decide +kernel
theorem dX6_act_82 : decode cX6_act 82 = .ok (.ireturn, 1) := by decide +kernel
theorem dX6_act_83 : decode cX6_act 83 = .ok (.iload_n 3, 1) := by decide +kernel
theorem dX6_act_84 : decode cX6_act 84 = .ok (.iconst 1, 1) := by decide +kernel
theorem dX6_act_85 : decode cX6_act 85 = .ok (.iadd, 1) := by decide +kernel
theorem dX6_act_86 : decode cX6_act 86 = .ok (.iload 4, 2) := by decide +kernel
theorem dX6_act_88 : decode cX6_act 88 = .ok (.if_icmp .lt 5, 3) := by decide +kernel
theorem dX6_act_91 : decode cX6_act 91 = .ok (.iconst 2, 1) := by decide +kernel
theorem dX6_act_92 : decode cX6_act 92 = .ok (.ireturn, 1) := by decide +kernel
theorem dX6_act_93 : decode cX6_act 93 = .ok (.aload_n 0, 1) := by decide +kernel
theorem dX6_act_94 : decode cX6_act 94 = .ok (.getfield 8, 3) := by decide +kernel
theorem dX6_act_97 : decode cX6_act 97 = .ok (.sipush 30000, 3) := by decide +kernel
theorem dX6_act_100 : decode cX6_act 100 = .ok (.sipush 1000, 3) := by decide +kernel
theorem dX6_act_103 : decode cX6_act 103 = .ok (.iload_n 2, 1) := by decide +kernel
theorem dX6_act_104 : decode cX6_act 104 = .ok (.imul, 1) := by decide +kernel
theorem dX6_act_105 : decode cX6_act 105 = .ok (.iadd, 1) := by decide +kernel
theorem dX6_act_106 : decode cX6_act 106 = .ok (.iload_n 3, 1) := by decide +kernel
theorem dX6_act_107 : decode cX6_act 107 = .ok (.iadd, 1) := by decide +kernel
theorem dX6_act_108 : decode cX6_act 108 = .ok (.iconst 1, 1) := by decide +kernel
theorem dX6_act_109 : decode cX6_act 109 = .ok (.iadd, 1) := by decide +kernel
theorem dX6_act_110 : decode cX6_act 110 = .ok (.iaload, 1) := by decide +kernel
theorem dX6_act_111 : decode cX6_act 111 = .ok (.istore 6, 2) := by decide +kernel
theorem dX6_act_113 : decode cX6_act 113 = .ok (.iload 5, 2) := by decide +kernel
theorem dX6_act_115 : decode cX6_act 115 = .ok (.tableswitch 218 1 11 #[57, 72, 80, 88, 115, 141, 166, 218, 218, 174, 182], 57) := by decide +kernel
theorem dX6_act_172 : decode cX6_act 172 = .ok (.iload 6, 2) := by decide +kernel
theorem dX6_act_174 : decode cX6_act 174 = .ok (.ifCond .le 11, 3) := by decide +kernel
theorem dX6_act_177 : decode cX6_act 177 = .ok (.aload_n 0, 1) := by decide +kernel
theorem dX6_act_178 : decode cX6_act 178 = .ok (.iload_n 1, 1) := by decide +kernel
theorem dX6_act_179 : decode cX6_act 179 = .ok (.iconst 4, 1) := by decide +kernel
theorem dX6_act_180 : decode cX6_act 180 = .ok (.iload 6, 2) := by decide +kernel
theorem dX6_act_182 : decode cX6_act 182 = .ok (.invokevirtual 59, 3) := by decide +kernel
theorem dX6_act_185 : decode cX6_act 185 = .ok (.iconst 0, 1) := by decide +kernel
theorem dX6_act_186 : decode cX6_act 186 = .ok (.ireturn, 1) := by decide +kernel
theorem dX6_act_187 : decode cX6_act 187 = .ok (.aload_n 0, 1) := by decide +kernel
theorem dX6_act_188 : decode cX6_act 188 = .ok (.iload_n 1, 1) := by decide +kernel
theorem dX6_act_189 : decode cX6_act 189 = .ok (.iload 6, 2) := by decide +kernel
theorem dX6_act_191 : decode cX6_act 191 = .ok (.invokevirtual 91, 3) := by decide +kernel
theorem dX6_act_194 : decode cX6_act 194 = .ok (.ireturn, 1) := by decide +kernel
theorem dX6_act_195 : decode cX6_act 195 = .ok (.aload_n 0, 1) := by decide +kernel
theorem dX6_act_196 : decode cX6_act 196 = .ok (.iload_n 1, 1) := by decide +kernel
theorem dX6_act_197 : decode cX6_act 197 = .ok (.iload 6, 2) := by decide +kernel
theorem dX6_act_199 : decode cX6_act 199 = .ok (.invokevirtual 94, 3) := by decide +kernel
theorem dX6_act_202 : decode cX6_act 202 = .ok (.ireturn, 1) := by decide +kernel
theorem dX6_act_203 : decode cX6_act 203 = .ok (.iload 6, 2) := by decide +kernel
theorem dX6_act_205 : decode cX6_act 205 = .ok (.i2l, 1) := by decide +kernel
theorem dX6_act_206 : decode cX6_act 206 = .ok (.lconst 0, 1) := by decide +kernel
theorem dX6_act_207 : decode cX6_act 207 = .ok (.ldc2_w 97, 3) := by decide +kernel
theorem dX6_act_210 : decode cX6_act 210 = .ok (.invokestatic 32, 3) := by decide +kernel
theorem dX6_act_213 : decode cX6_act 213 = .ok (.ifCond .ne 6, 3) := by decide +kernel
theorem dX6_act_216 : decode cX6_act 216 = .ok (.bipush 10, 2) := by decide +kernel
theorem dX6_act_218 : decode cX6_act 218 = .ok (.ireturn, 1) := by decide +kernel
theorem dX6_act_219 : decode cX6_act 219 = .ok (.aload_n 0, 1) := by decide +kernel
theorem dX6_act_220 : decode cX6_act 220 = .ok (.iload_n 1, 1) := by decide +kernel
theorem dX6_act_221 : decode cX6_act 221 = .ok (.iconst 2, 1) := by decide +kernel
theorem dX6_act_222 : decode cX6_act 222 = .ok (.iload 6, 2) := by decide +kernel
theorem dX6_act_224 : decode cX6_act 224 = .ok (.iconst (-1), 1) := by decide +kernel
theorem dX6_act_225 : decode cX6_act 225 = .ok (.invokevirtual 99, 3) := by decide +kernel
theorem dX6_act_228 : decode cX6_act 228 = .ok (.iconst (-1), 1) := by decide +kernel
theorem dX6_act_229 : decode cX6_act 229 = .ok (.ireturn, 1) := by decide +kernel
theorem dX6_act_230 : decode cX6_act 230 = .ok (.iload 6, 2) := by decide +kernel
theorem dX6_act_232 : decode cX6_act 232 = .ok (.i2l, 1) := by decide +kernel
theorem dX6_act_233 : decode cX6_act 233 = .ok (.lconst 0, 1) := by decide +kernel
theorem dX6_act_234 : decode cX6_act 234 = .ok (.ldc2_w 97, 3) := by decide +kernel
theorem dX6_act_237 : decode cX6_act 237 = .ok (.invokestatic 32, 3) := by decide +kernel
theorem dX6_act_240 : decode cX6_act 240 = .ok (.ifCond .ne 6, 3) := by decide +kernel
theorem dX6_act_243 : decode cX6_act 243 = .ok (.bipush 10, 2) := by decide +kernel
theorem dX6_act_245 : decode cX6_act 245 = .ok (.ireturn, 1) := by decide +kernel
theorem dX6_act_246 : decode cX6_act 246 = .ok (.aload_n 0, 1) := by decide +kernel
theorem dX6_act_247 : decode cX6_act 247 = .ok (.iload 6, 2) := by decide +kernel
theorem dX6_act_249 : decode cX6_act 249 = .ok (.invokevirtual 103, 3) := by decide +kernel
theorem dX6_act_252 : decode cX6_act 252 = .ok (.istore 7, 2) := by decide +kernel
theorem dX6_act_254 : decode cX6_act 254 = .ok (.iconst 0, 1) := by decide +kernel
theorem dX6_act_255 : decode cX6_act 255 = .ok (.ireturn, 1) := by decide +kernel
theorem dX6_act_256 : decode cX6_act 256 = .ok (.iload 6, 2) := by decide +kernel
theorem dX6_act_258 : decode cX6_act 258 = .ok (.ifCond .gt 5, 3) := by decide +kernel
theorem dX6_act_261 : decode cX6_act 261 = .ok (.iconst 0, 1) := by decide +kernel
theorem dX6_act_262 : decode cX6_act 262 = .ok (.ireturn, 1) := by decide +kernel
theorem dX6_act_263 : decode cX6_act 263 = .ok (.aload_n 0, 1) := by decide +kernel
theorem dX6_act_264 : decode cX6_act 264 = .ok (.iload_n 1, 1) := by decide +kernel
theorem dX6_act_265 : decode cX6_act 265 = .ok (.iconst 3, 1) := by decide +kernel
theorem dX6_act_266 : decode cX6_act 266 = .ok (.iconst (-1), 1) := by decide +kernel
theorem dX6_act_267 : decode cX6_act 267 = .ok (.aload_n 0, 1) := by decide +kernel
theorem dX6_act_268 : decode cX6_act 268 = .ok (.getfield 8, 3) := by decide +kernel
theorem dX6_act_271 : decode cX6_act 271 = .ok (.iconst 0, 1) := by decide +kernel
theorem dX6_act_272 : decode cX6_act 272 = .ok (.iaload, 1) := by decide +kernel
theorem dX6_act_273 : decode cX6_act 273 = .ok (.iload 6, 2) := by decide +kernel
theorem dX6_act_275 : decode cX6_act 275 = .ok (.iadd, 1) := by decide +kernel
theorem dX6_act_276 : decode cX6_act 276 = .ok (.invokevirtual 99, 3) := by decide +kernel
theorem dX6_act_279 : decode cX6_act 279 = .ok (.iconst (-1), 1) := by decide +kernel
theorem dX6_act_280 : decode cX6_act 280 = .ok (.ireturn, 1) := by decide +kernel
theorem dX6_act_281 : decode cX6_act 281 = .ok (.aload_n 0, 1) := by decide +kernel
theorem dX6_act_282 : decode cX6_act 282 = .ok (.iload_n 1, 1) := by decide +kernel
theorem dX6_act_283 : decode cX6_act 283 = .ok (.iload 6, 2) := by decide +kernel
theorem dX6_act_285 : decode cX6_act 285 = .ok (.invokevirtual 106, 3) := by decide +kernel
theorem dX6_act_288 : decode cX6_act 288 = .ok (.ireturn, 1) := by decide +kernel
theorem dX6_act_289 : decode cX6_act 289 = .ok (.aload_n 0, 1) := by decide +kernel
theorem dX6_act_290 : decode cX6_act 290 = .ok (.iload_n 1, 1) := by decide +kernel
theorem dX6_act_291 : decode cX6_act 291 = .ok (.iload 6, 2) := by decide +kernel
theorem dX6_act_293 : decode cX6_act 293 = .ok (.invokevirtual 109, 3) := by decide +kernel
theorem dX6_act_296 : decode cX6_act 296 = .ok (.ireturn, 1) := by decide +kernel
theorem dX6_act_297 : decode cX6_act 297 = .ok (.iload 6, 2) := by decide +kernel
theorem dX6_act_299 : decode cX6_act 299 = .ok (.i2l, 1) := by decide +kernel
theorem dX6_act_300 : decode cX6_act 300 = .ok (.lconst 0, 1) := by decide +kernel
theorem dX6_act_301 : decode cX6_act 301 = .ok (.ldc2_w 112, 3) := by decide +kernel
theorem dX6_act_304 : decode cX6_act 304 = .ok (.invokestatic 32, 3) := by decide +kernel
theorem dX6_act_307 : decode cX6_act 307 = .ok (.ifCond .ne 8, 3) := by decide +kernel
theorem dX6_act_310 : decode cX6_act 310 = .ok (.bipush 10, 2) := by decide +kernel
theorem dX6_act_312 : decode cX6_act 312 = .ok (.goto 20, 3) := by decide +kernel
theorem dX6_act_315 : decode cX6_act 315 = .ok (.iload 6, 2) := by decide +kernel
theorem dX6_act_317 : decode cX6_act 317 = .ok (.ifCond .eq 9, 3) := by decide +kernel
theorem dX6_act_320 : decode cX6_act 320 = .ok (.iload 6, 2) := by decide +kernel
theorem dX6_act_322 : decode cX6_act 322 = .ok (.iconst 3, 1) := by decide +kernel
theorem dX6_act_323 : decode cX6_act 323 = .ok (.if_icmp .ne 7, 3) := by decide +kernel
theorem dX6_act_326 : decode cX6_act 326 = .ok (.iconst 5, 1) := by decide +kernel
theorem dX6_act_327 : decode cX6_act 327 = .ok (.goto 5, 3) := by decide +kernel
theorem dX6_act_330 : decode cX6_act 330 = .ok (.bipush 6, 2) := by decide +kernel
theorem dX6_act_332 : decode cX6_act 332 = .ok (.ireturn, 1) := by decide +kernel
theorem dX6_act_333 : decode cX6_act 333 = .ok (.aload_n 0, 1) := by decide +kernel
theorem dX6_act_334 : decode cX6_act 334 = .ok (.iload_n 1, 1) := by decide +kernel
theorem dX6_act_335 : decode cX6_act 335 = .ok (.iload 5, 2) := by decide +kernel
theorem dX6_act_337 : decode cX6_act 337 = .ok (.iload 6, 2) := by decide +kernel
theorem dX6_act_339 : decode cX6_act 339 = .ok (.invokevirtual 114, 3) := by decide +kernel
theorem dX6_act_342 : decode cX6_act 342 = .ok (.ireturn, 1) := by decide +kernel
theorem dX6_takesLock_0 : decode cX6_takesLock 0 = .ok (.iload_n 2, 1) := by decide +kernel
theorem dX6_takesLock_1 : decode cX6_takesLock 1 = .ok (.i2l, 1) := by decide +kernel
theorem dX6_takesLock_2 : decode cX6_takesLock 2 = .ok (.lconst 0, 1) := by decide +kernel
theorem dX6_takesLock_3 : decode cX6_takesLock 3 = .ok (.ldc2_w 118, 3) := by decide +kernel
theorem dX6_takesLock_6 : decode cX6_takesLock 6 = .ok (.invokestatic 32, 3) := by decide +kernel
theorem dX6_takesLock_9 : decode cX6_takesLock 9 = .ok (.ifCond .eq 18, 3) := by decide +kernel
theorem dX6_takesLock_12 : decode cX6_takesLock 12 = .ok (.aload_n 0, 1) := by decide +kernel
theorem dX6_takesLock_13 : decode cX6_takesLock 13 = .ok (.getfield 8, 3) := by decide +kernel
theorem dX6_takesLock_16 : decode cX6_takesLock 16 = .ok (.sipush 240, 3) := by decide +kernel
theorem dX6_takesLock_19 : decode cX6_takesLock 19 = .ok (.iload_n 2, 1) := by decide +kernel
theorem dX6_takesLock_20 : decode cX6_takesLock 20 = .ok (.iadd, 1) := by decide +kernel
theorem dX6_takesLock_21 : decode cX6_takesLock 21 = .ok (.iaload, 1) := by decide +kernel
theorem dX6_takesLock_22 : decode cX6_takesLock 22 = .ok (.bipush (-2), 2) := by decide +kernel
theorem dX6_takesLock_24 : decode cX6_takesLock 24 = .ok (.if_icmp .ne 6, 3) := by decide +kernel
theorem dX6_takesLock_27 : decode cX6_takesLock 27 = .ok (.bipush 7, 2) := by decide +kernel
theorem dX6_takesLock_29 : decode cX6_takesLock 29 = .ok (.ireturn, 1) := by decide +kernel
theorem dX6_takesLock_30 : decode cX6_takesLock 30 = .ok (.aload_n 0, 1) := by decide +kernel
theorem dX6_takesLock_31 : decode cX6_takesLock 31 = .ok (.getfield 8, 3) := by decide +kernel
theorem dX6_takesLock_34 : decode cX6_takesLock 34 = .ok (.sipush 240, 3) := by decide +kernel
theorem dX6_takesLock_37 : decode cX6_takesLock 37 = .ok (.iload_n 2, 1) := by decide +kernel
theorem dX6_takesLock_38 : decode cX6_takesLock 38 = .ok (.iadd, 1) := by decide +kernel
theorem dX6_takesLock_39 : decode cX6_takesLock 39 = .ok (.iaload, 1) := by decide +kernel
theorem dX6_takesLock_40 : decode cX6_takesLock 40 = .ok (.istore_n 3, 1) := by decide +kernel
theorem dX6_takesLock_41 : decode cX6_takesLock 41 = .ok (.iload_n 3, 1) := by decide +kernel
theorem dX6_takesLock_42 : decode cX6_takesLock 42 = .ok (.iload_n 1, 1) := by decide +kernel
theorem dX6_takesLock_43 : decode cX6_takesLock 43 = .ok (.if_icmp .ne 6, 3) := by decide +kernel
theorem dX6_takesLock_46 : decode cX6_takesLock 46 = .ok (.bipush 11, 2) := by decide +kernel
theorem dX6_takesLock_48 : decode cX6_takesLock 48 = .ok (.ireturn, 1) := by decide +kernel
theorem dX6_takesLock_49 : decode cX6_takesLock 49 = .ok (.iload_n 3, 1) := by decide +kernel
theorem dX6_takesLock_50 : decode cX6_takesLock 50 = .ok (.ifCond .ge 16, 3) := by decide +kernel
theorem dX6_takesLock_53 : decode cX6_takesLock 53 = .ok (.aload_n 0, 1) := by decide +kernel
theorem dX6_takesLock_54 : decode cX6_takesLock 54 = .ok (.getfield 8, 3) := by decide +kernel
theorem dX6_takesLock_57 : decode cX6_takesLock 57 = .ok (.sipush 240, 3) := by decide +kernel
theorem dX6_takesLock_60 : decode cX6_takesLock 60 = .ok (.iload_n 2, 1) := by decide +kernel
theorem dX6_takesLock_61 : decode cX6_takesLock 61 = .ok (.iadd, 1) := by decide +kernel
theorem dX6_takesLock_62 : decode cX6_takesLock 62 = .ok (.iload_n 1, 1) := by decide +kernel
theorem dX6_takesLock_63 : decode cX6_takesLock 63 = .ok (.iastore, 1) := by decide +kernel
theorem dX6_takesLock_64 : decode cX6_takesLock 64 = .ok (.iconst 0, 1) := by decide +kernel
theorem dX6_takesLock_65 : decode cX6_takesLock 65 = .ok (.ireturn, 1) := by decide +kernel
theorem dX6_takesLock_66 : decode cX6_takesLock 66 = .ok (.iconst 0, 1) := by decide +kernel
theorem dX6_takesLock_67 : decode cX6_takesLock 67 = .ok (.istore 4, 2) := by decide +kernel
theorem dX6_takesLock_69 : decode cX6_takesLock 69 = .ok (.iload_n 3, 1) := by decide +kernel
theorem dX6_takesLock_70 : decode cX6_takesLock 70 = .ok (.istore 5, 2) := by decide +kernel
theorem dX6_takesLock_72 : decode cX6_takesLock 72 = .ok (.iload 5, 2) := by decide +kernel
theorem dX6_takesLock_74 : decode cX6_takesLock 74 = .ok (.ifCond .lt 50, 3) := by decide +kernel
theorem dX6_takesLock_77 : decode cX6_takesLock 77 = .ok (.iload 5, 2) := by decide +kernel
theorem dX6_takesLock_79 : decode cX6_takesLock 79 = .ok (.iload_n 1, 1) := by decide +kernel
theorem dX6_takesLock_80 : decode cX6_takesLock 80 = .ok (.if_icmp .eq 44, 3) := by decide +kernel
theorem dX6_takesLock_83 : decode cX6_takesLock 83 = .ok (.iinc 4 1, 3) := by decide +kernel
theorem dX6_takesLock_86 : decode cX6_takesLock 86 = .ok (.aload_n 0, 1) := by decide +kernel
theorem dX6_takesLock_87 : decode cX6_takesLock 87 = .ok (.iload 5, 2) := by decide +kernel
theorem dX6_takesLock_89 : decode cX6_takesLock 89 = .ok (.bipush 6, 2) := by decide +kernel
theorem dX6_takesLock_91 : decode cX6_takesLock 91 = .ok (.invokevirtual 36, 3) := by decide +kernel
theorem dX6_takesLock_94 : decode cX6_takesLock 94 = .ok (.iconst 1, 1) := by decide +kernel
theorem dX6_takesLock_95 : decode cX6_takesLock 95 = .ok (.if_icmp .ne 23, 3) := by decide +kernel
theorem dX6_takesLock_98 : decode cX6_takesLock 98 = .ok (.aload_n 0, 1) := by decide +kernel
theorem dX6_takesLock_99 : decode cX6_takesLock 99 = .ok (.getfield 8, 3) := by decide +kernel
theorem dX6_takesLock_102 : decode cX6_takesLock 102 = .ok (.sipush 240, 3) := by decide +kernel
theorem dX6_takesLock_105 : decode cX6_takesLock 105 = .ok (.aload_n 0, 1) := by decide +kernel
theorem dX6_takesLock_106 : decode cX6_takesLock 106 = .ok (.iload 5, 2) := by decide +kernel
theorem dX6_takesLock_108 : decode cX6_takesLock 108 = .ok (.bipush 7, 2) := by decide +kernel
theorem dX6_takesLock_110 : decode cX6_takesLock 110 = .ok (.invokevirtual 36, 3) := by decide +kernel
theorem dX6_takesLock_113 : decode cX6_takesLock 113 = .ok (.iadd, 1) := by decide +kernel
theorem dX6_takesLock_114 : decode cX6_takesLock 114 = .ok (.iaload, 1) := by decide +kernel
theorem dX6_takesLock_115 : decode cX6_takesLock 115 = .ok (.goto 4, 3) := by decide +kernel
theorem dX6_takesLock_118 : decode cX6_takesLock 118 = .ok (.iconst (-1), 1) := by decide +kernel
theorem dX6_takesLock_119 : decode cX6_takesLock 119 = .ok (.istore 5, 2) := by decide +kernel
theorem dX6_takesLock_121 : decode cX6_takesLock 121 = .ok (.goto (-49), 3) := by decide +kernel
theorem dX6_takesLock_124 : decode cX6_takesLock 124 = .ok (.iload 5, 2) := by decide +kernel
theorem dX6_takesLock_126 : decode cX6_takesLock 126 = .ok (.ifCond .ge 13, 3) := by decide +kernel
theorem dX6_takesLock_129 : decode cX6_takesLock 129 = .ok (.aload_n 0, 1) := by decide +kernel
theorem dX6_takesLock_130 : decode cX6_takesLock 130 = .ok (.iload_n 1, 1) := by decide +kernel
theorem dX6_takesLock_131 : decode cX6_takesLock 131 = .ok (.iconst 1, 1) := by decide +kernel
theorem dX6_takesLock_132 : decode cX6_takesLock 132 = .ok (.iload_n 2, 1) := by decide +kernel
theorem dX6_takesLock_133 : decode cX6_takesLock 133 = .ok (.iconst (-1), 1) := by decide +kernel
theorem dX6_takesLock_134 : decode cX6_takesLock 134 = .ok (.invokevirtual 99, 3) := by decide +kernel
theorem dX6_takesLock_137 : decode cX6_takesLock 137 = .ok (.iconst (-1), 1) := by decide +kernel
theorem dX6_takesLock_138 : decode cX6_takesLock 138 = .ok (.ireturn, 1) := by decide +kernel
theorem dX6_takesLock_139 : decode cX6_takesLock 139 = .ok (.aload_n 0, 1) := by decide +kernel
theorem dX6_takesLock_140 : decode cX6_takesLock 140 = .ok (.getfield 8, 3) := by decide +kernel
theorem dX6_takesLock_143 : decode cX6_takesLock 143 = .ok (.iconst 4, 1) := by decide +kernel
theorem dX6_takesLock_144 : decode cX6_takesLock 144 = .ok (.dup2, 1) := by decide +kernel
theorem dX6_takesLock_145 : decode cX6_takesLock 145 = .ok (.iaload, 1) := by decide +kernel
theorem dX6_takesLock_146 : decode cX6_takesLock 146 = .ok (.iconst 1, 1) := by decide +kernel
theorem dX6_takesLock_147 : decode cX6_takesLock 147 = .ok (.iadd, 1) := by decide +kernel
theorem dX6_takesLock_148 : decode cX6_takesLock 148 = .ok (.iastore, 1) := by decide +kernel
theorem dX6_takesLock_149 : decode cX6_takesLock 149 = .ok (.aload_n 0, 1) := by decide +kernel
theorem dX6_takesLock_150 : decode cX6_takesLock 150 = .ok (.getfield 8, 3) := by decide +kernel
theorem dX6_takesLock_153 : decode cX6_takesLock 153 = .ok (.iconst 5, 1) := by decide +kernel
theorem dX6_takesLock_154 : decode cX6_takesLock 154 = .ok (.iload 4, 2) := by decide +kernel
theorem dX6_takesLock_156 : decode cX6_takesLock 156 = .ok (.iconst 1, 1) := by decide +kernel
theorem dX6_takesLock_157 : decode cX6_takesLock 157 = .ok (.iadd, 1) := by decide +kernel
theorem dX6_takesLock_158 : decode cX6_takesLock 158 = .ok (.iastore, 1) := by decide +kernel
theorem dX6_takesLock_159 : decode cX6_takesLock 159 = .ok (.aload_n 0, 1) := by decide +kernel
theorem dX6_takesLock_160 : decode cX6_takesLock 160 = .ok (.getfield 8, 3) := by decide +kernel
theorem dX6_takesLock_163 : decode cX6_takesLock 163 = .ok (.bipush 16, 2) := by decide +kernel
theorem dX6_takesLock_165 : decode cX6_takesLock 165 = .ok (.iload_n 1, 1) := by decide +kernel
theorem dX6_takesLock_166 : decode cX6_takesLock 166 = .ok (.iastore, 1) := by decide +kernel
theorem dX6_takesLock_167 : decode cX6_takesLock 167 = .ok (.iload_n 3, 1) := by decide +kernel
theorem dX6_takesLock_168 : decode cX6_takesLock 168 = .ok (.istore 5, 2) := by decide +kernel
theorem dX6_takesLock_170 : decode cX6_takesLock 170 = .ok (.iconst 1, 1) := by decide +kernel
theorem dX6_takesLock_171 : decode cX6_takesLock 171 = .ok (.istore 6, 2) := by decide +kernel
theorem dX6_takesLock_173 : decode cX6_takesLock 173 = .ok (.iload 6, 2) := by decide +kernel
theorem dX6_takesLock_175 : decode cX6_takesLock 175 = .ok (.iload 4, 2) := by decide +kernel
theorem dX6_takesLock_177 : decode cX6_takesLock 177 = .ok (.if_icmp .gt 44, 3) := by decide +kernel
theorem dX6_takesLock_180 : decode cX6_takesLock 180 = .ok (.aload_n 0, 1) := by decide +kernel
theorem dX6_takesLock_181 : decode cX6_takesLock 181 = .ok (.getfield 8, 3) := by decide +kernel
theorem dX6_takesLock_184 : decode cX6_takesLock 184 = .ok (.bipush 16, 2) := by decide +kernel
theorem dX6_takesLock_186 : decode cX6_takesLock 186 = .ok (.iload 6, 2) := by decide +kernel
theorem dX6_takesLock_188 : decode cX6_takesLock 188 = .ok (.iadd, 1) := by decide +kernel
theorem dX6_takesLock_189 : decode cX6_takesLock 189 = .ok (.iload 5, 2) := by decide +kernel
theorem dX6_takesLock_191 : decode cX6_takesLock 191 = .ok (.iastore, 1) := by decide +kernel
theorem dX6_takesLock_192 : decode cX6_takesLock 192 = .ok (.aload_n 0, 1) := by decide +kernel
theorem dX6_takesLock_193 : decode cX6_takesLock 193 = .ok (.getfield 8, 3) := by decide +kernel
theorem dX6_takesLock_196 : decode cX6_takesLock 196 = .ok (.sipush 240, 3) := by decide +kernel
theorem dX6_takesLock_199 : decode cX6_takesLock 199 = .ok (.aload_n 0, 1) := by decide +kernel
theorem dX6_takesLock_200 : decode cX6_takesLock 200 = .ok (.iload 5, 2) := by decide +kernel
theorem dX6_takesLock_202 : decode cX6_takesLock 202 = .ok (.bipush 7, 2) := by decide +kernel
theorem dX6_takesLock_204 : decode cX6_takesLock 204 = .ok (.invokevirtual 36, 3) := by decide +kernel
theorem dX6_takesLock_207 : decode cX6_takesLock 207 = .ok (.iconst 0, 1) := by decide +kernel
theorem dX6_takesLock_208 : decode cX6_takesLock 208 = .ok (.invokestatic 120, 3) := by decide +kernel
theorem dX6_takesLock_211 : decode cX6_takesLock 211 = .ok (.iadd, 1) := by decide +kernel
theorem dX6_takesLock_212 : decode cX6_takesLock 212 = .ok (.iaload, 1) := by decide +kernel
theorem dX6_takesLock_213 : decode cX6_takesLock 213 = .ok (.istore 5, 2) := by decide +kernel
theorem dX6_takesLock_215 : decode cX6_takesLock 215 = .ok (.iinc 6 1, 3) := by decide +kernel
theorem dX6_takesLock_218 : decode cX6_takesLock 218 = .ok (.goto (-45), 3) := by decide +kernel
theorem dX6_takesLock_221 : decode cX6_takesLock 221 = .ok (.bipush 12, 2) := by decide +kernel
theorem dX6_takesLock_223 : decode cX6_takesLock 223 = .ok (.ireturn, 1) := by decide +kernel
theorem dX6_givesLock_0 : decode cX6_givesLock 0 = .ok (.iload_n 2, 1) := by decide +kernel
theorem dX6_givesLock_1 : decode cX6_givesLock 1 = .ok (.i2l, 1) := by decide +kernel
theorem dX6_givesLock_2 : decode cX6_givesLock 2 = .ok (.lconst 0, 1) := by decide +kernel
theorem dX6_givesLock_3 : decode cX6_givesLock 3 = .ok (.ldc2_w 118, 3) := by decide +kernel
theorem dX6_givesLock_6 : decode cX6_givesLock 6 = .ok (.invokestatic 32, 3) := by decide +kernel
theorem dX6_givesLock_9 : decode cX6_givesLock 9 = .ok (.ifCond .eq 18, 3) := by decide +kernel
theorem dX6_givesLock_12 : decode cX6_givesLock 12 = .ok (.aload_n 0, 1) := by decide +kernel
theorem dX6_givesLock_13 : decode cX6_givesLock 13 = .ok (.getfield 8, 3) := by decide +kernel
theorem dX6_givesLock_16 : decode cX6_givesLock 16 = .ok (.sipush 240, 3) := by decide +kernel
theorem dX6_givesLock_19 : decode cX6_givesLock 19 = .ok (.iload_n 2, 1) := by decide +kernel
theorem dX6_givesLock_20 : decode cX6_givesLock 20 = .ok (.iadd, 1) := by decide +kernel
theorem dX6_givesLock_21 : decode cX6_givesLock 21 = .ok (.iaload, 1) := by decide +kernel
theorem dX6_givesLock_22 : decode cX6_givesLock 22 = .ok (.bipush (-2), 2) := by decide +kernel
theorem dX6_givesLock_24 : decode cX6_givesLock 24 = .ok (.if_icmp .ne 6, 3) := by decide +kernel
theorem dX6_givesLock_27 : decode cX6_givesLock 27 = .ok (.bipush 7, 2) := by decide +kernel
theorem dX6_givesLock_29 : decode cX6_givesLock 29 = .ok (.ireturn, 1) := by decide +kernel
theorem dX6_givesLock_30 : decode cX6_givesLock 30 = .ok (.aload_n 0, 1) := by decide +kernel
theorem dX6_givesLock_31 : decode cX6_givesLock 31 = .ok (.getfield 8, 3) := by decide +kernel
theorem dX6_givesLock_34 : decode cX6_givesLock 34 = .ok (.sipush 240, 3) := by decide +kernel
theorem dX6_givesLock_37 : decode cX6_givesLock 37 = .ok (.iload_n 2, 1) := by decide +kernel
theorem dX6_givesLock_38 : decode cX6_givesLock 38 = .ok (.iadd, 1) := by decide +kernel
theorem dX6_givesLock_39 : decode cX6_givesLock 39 = .ok (.iaload, 1) := by decide +kernel
theorem dX6_givesLock_40 : decode cX6_givesLock 40 = .ok (.iload_n 1, 1) := by decide +kernel
theorem dX6_givesLock_41 : decode cX6_givesLock 41 = .ok (.if_icmp .eq 6, 3) := by decide +kernel
theorem dX6_givesLock_44 : decode cX6_givesLock 44 = .ok (.bipush 11, 2) := by decide +kernel
theorem dX6_givesLock_46 : decode cX6_givesLock 46 = .ok (.ireturn, 1) := by decide +kernel
theorem dX6_givesLock_47 : decode cX6_givesLock 47 = .ok (.aload_n 0, 1) := by decide +kernel
theorem dX6_givesLock_48 : decode cX6_givesLock 48 = .ok (.getfield 8, 3) := by decide +kernel
theorem dX6_givesLock_51 : decode cX6_givesLock 51 = .ok (.sipush 240, 3) := by decide +kernel
theorem dX6_givesLock_54 : decode cX6_givesLock 54 = .ok (.iload_n 2, 1) := by decide +kernel
theorem dX6_givesLock_55 : decode cX6_givesLock 55 = .ok (.iadd, 1) := by decide +kernel
theorem dX6_givesLock_56 : decode cX6_givesLock 56 = .ok (.iconst (-1), 1) := by decide +kernel
theorem dX6_givesLock_57 : decode cX6_givesLock 57 = .ok (.iastore, 1) := by decide +kernel
theorem dX6_givesLock_58 : decode cX6_givesLock 58 = .ok (.aload_n 0, 1) := by decide +kernel
theorem dX6_givesLock_59 : decode cX6_givesLock 59 = .ok (.iload_n 2, 1) := by decide +kernel
theorem dX6_givesLock_60 : decode cX6_givesLock 60 = .ok (.invokevirtual 73, 3) := by decide +kernel
theorem dX6_givesLock_63 : decode cX6_givesLock 63 = .ok (.iconst 0, 1) := by decide +kernel
theorem dX6_givesLock_64 : decode cX6_givesLock 64 = .ok (.ireturn, 1) := by decide +kernel
theorem dX6_forks_0 : decode cX6_forks 0 = .ok (.iload_n 2, 1) := by decide +kernel
theorem dX6_forks_1 : decode cX6_forks 1 = .ok (.i2l, 1) := by decide +kernel
theorem dX6_forks_2 : decode cX6_forks 2 = .ok (.lconst 0, 1) := by decide +kernel
theorem dX6_forks_3 : decode cX6_forks 3 = .ok (.ldc2_w 125, 3) := by decide +kernel
theorem dX6_forks_6 : decode cX6_forks 6 = .ok (.invokestatic 32, 3) := by decide +kernel
theorem dX6_forks_9 : decode cX6_forks 9 = .ok (.ifCond .ne 6, 3) := by decide +kernel
theorem dX6_forks_12 : decode cX6_forks 12 = .ok (.bipush 10, 2) := by decide +kernel
theorem dX6_forks_14 : decode cX6_forks 14 = .ok (.ireturn, 1) := by decide +kernel
theorem dX6_forks_15 : decode cX6_forks 15 = .ok (.aload_n 0, 1) := by decide +kernel
theorem dX6_forks_16 : decode cX6_forks 16 = .ok (.getfield 8, 3) := by decide +kernel
theorem dX6_forks_19 : decode cX6_forks 19 = .ok (.iconst 1, 1) := by decide +kernel
theorem dX6_forks_20 : decode cX6_forks 20 = .ok (.iaload, 1) := by decide +kernel
theorem dX6_forks_21 : decode cX6_forks 21 = .ok (.sipush 200, 3) := by decide +kernel
theorem dX6_forks_24 : decode cX6_forks 24 = .ok (.if_icmp .ne 6, 3) := by decide +kernel
theorem dX6_forks_27 : decode cX6_forks 27 = .ok (.bipush 11, 2) := by decide +kernel
theorem dX6_forks_29 : decode cX6_forks 29 = .ok (.ireturn, 1) := by decide +kernel
theorem dX6_forks_30 : decode cX6_forks 30 = .ok (.aload_n 0, 1) := by decide +kernel
theorem dX6_forks_31 : decode cX6_forks 31 = .ok (.aload_n 0, 1) := by decide +kernel
theorem dX6_forks_32 : decode cX6_forks 32 = .ok (.iload_n 1, 1) := by decide +kernel
theorem dX6_forks_33 : decode cX6_forks 33 = .ok (.iconst 0, 1) := by decide +kernel
theorem dX6_forks_34 : decode cX6_forks 34 = .ok (.invokevirtual 36, 3) := by decide +kernel
theorem dX6_forks_37 : decode cX6_forks 37 = .ok (.iload_n 2, 1) := by decide +kernel
theorem dX6_forks_38 : decode cX6_forks 38 = .ok (.aload_n 0, 1) := by decide +kernel
theorem dX6_forks_39 : decode cX6_forks 39 = .ok (.iload_n 1, 1) := by decide +kernel
theorem dX6_forks_40 : decode cX6_forks 40 = .ok (.iconst 2, 1) := by decide +kernel
theorem dX6_forks_41 : decode cX6_forks 41 = .ok (.invokevirtual 36, 3) := by decide +kernel
theorem dX6_forks_44 : decode cX6_forks 44 = .ok (.aload_n 0, 1) := by decide +kernel
theorem dX6_forks_45 : decode cX6_forks 45 = .ok (.iload_n 1, 1) := by decide +kernel
theorem dX6_forks_46 : decode cX6_forks 46 = .ok (.bipush 10, 2) := by decide +kernel
theorem dX6_forks_48 : decode cX6_forks 48 = .ok (.invokevirtual 36, 3) := by decide +kernel
theorem dX6_forks_51 : decode cX6_forks 51 = .ok (.aload_n 0, 1) := by decide +kernel
theorem dX6_forks_52 : decode cX6_forks 52 = .ok (.iload_n 1, 1) := by decide +kernel
theorem dX6_forks_53 : decode cX6_forks 53 = .ok (.bipush 11, 2) := by decide +kernel
theorem dX6_forks_55 : decode cX6_forks 55 = .ok (.invokevirtual 36, 3) := by decide +kernel
theorem dX6_forks_58 : decode cX6_forks 58 = .ok (.invokevirtual 127, 3) := by decide +kernel
theorem dX6_forks_61 : decode cX6_forks 61 = .ok (.istore_n 3, 1) := by decide +kernel
theorem dX6_forks_62 : decode cX6_forks 62 = .ok (.iconst 0, 1) := by decide +kernel
theorem dX6_forks_63 : decode cX6_forks 63 = .ok (.ireturn, 1) := by decide +kernel
theorem dX6_says_0 : decode cX6_says 0 = .ok (.iload_n 2, 1) := by decide +kernel
theorem dX6_says_1 : decode cX6_says 1 = .ok (.i2l, 1) := by decide +kernel
theorem dX6_says_2 : decode cX6_says 2 = .ok (.lconst 0, 1) := by decide +kernel
theorem dX6_says_3 : decode cX6_says 3 = .ok (.ldc2_w 131, 3) := by decide +kernel
theorem dX6_says_6 : decode cX6_says 6 = .ok (.invokestatic 32, 3) := by decide +kernel
theorem dX6_says_9 : decode cX6_says 9 = .ok (.ifCond .ne 6, 3) := by decide +kernel
theorem dX6_says_12 : decode cX6_says 12 = .ok (.bipush 10, 2) := by decide +kernel
theorem dX6_says_14 : decode cX6_says 14 = .ok (.ireturn, 1) := by decide +kernel
theorem dX6_says_15 : decode cX6_says 15 = .ok (.aload_n 0, 1) := by decide +kernel
theorem dX6_says_16 : decode cX6_says 16 = .ok (.iload_n 1, 1) := by decide +kernel
theorem dX6_says_17 : decode cX6_says 17 = .ok (.iconst 0, 1) := by decide +kernel
theorem dX6_says_18 : decode cX6_says 18 = .ok (.invokevirtual 36, 3) := by decide +kernel
theorem dX6_says_21 : decode cX6_says 21 = .ok (.iload_n 2, 1) := by decide +kernel
theorem dX6_says_22 : decode cX6_says 22 = .ok (.invokestatic 133, 3) := by decide +kernel
theorem dX6_says_25 : decode cX6_says 25 = .ok (.ifCond .ne 5, 3) := by decide +kernel
theorem dX6_says_28 : decode cX6_says 28 = .ok (.iconst 3, 1) := by decide +kernel
theorem dX6_says_29 : decode cX6_says 29 = .ok (.ireturn, 1) := by decide +kernel
theorem dX6_says_30 : decode cX6_says 30 = .ok (.iload_n 2, 1) := by decide +kernel
theorem dX6_says_31 : decode cX6_says 31 = .ok (.iconst 1, 1) := by decide +kernel
theorem dX6_says_32 : decode cX6_says 32 = .ok (.if_icmp .eq 8, 3) := by decide +kernel
theorem dX6_says_35 : decode cX6_says 35 = .ok (.iload_n 2, 1) := by decide +kernel
theorem dX6_says_36 : decode cX6_says 36 = .ok (.iconst 2, 1) := by decide +kernel
theorem dX6_says_37 : decode cX6_says 37 = .ok (.if_icmp .ne 19, 3) := by decide +kernel
theorem dX6_says_40 : decode cX6_says 40 = .ok (.aload_n 0, 1) := by decide +kernel
theorem dX6_says_41 : decode cX6_says 41 = .ok (.iload_n 1, 1) := by decide +kernel
theorem dX6_says_42 : decode cX6_says 42 = .ok (.bipush 13, 2) := by decide +kernel
theorem dX6_says_44 : decode cX6_says 44 = .ok (.aload_n 0, 1) := by decide +kernel
theorem dX6_says_45 : decode cX6_says 45 = .ok (.iload_n 1, 1) := by decide +kernel
theorem dX6_says_46 : decode cX6_says 46 = .ok (.bipush 13, 2) := by decide +kernel
theorem dX6_says_48 : decode cX6_says 48 = .ok (.invokevirtual 36, 3) := by decide +kernel
theorem dX6_says_51 : decode cX6_says 51 = .ok (.iconst 1, 1) := by decide +kernel
theorem dX6_says_52 : decode cX6_says 52 = .ok (.iadd, 1) := by decide +kernel
theorem dX6_says_53 : decode cX6_says 53 = .ok (.invokevirtual 59, 3) := by decide +kernel
theorem dX6_says_56 : decode cX6_says 56 = .ok (.iconst 0, 1) := by decide +kernel
theorem dX6_says_57 : decode cX6_says 57 = .ok (.ireturn, 1) := by decide +kernel
theorem dX6_smalls_0 : decode cX6_smalls 0 = .ok (.iload_n 2, 1) := by decide +kernel
theorem dX6_smalls_1 : decode cX6_smalls 1 = .ok (.bipush 8, 2) := by decide +kernel
theorem dX6_smalls_3 : decode cX6_smalls 3 = .ok (.if_icmp .ne 65, 3) := by decide +kernel
theorem dX6_smalls_6 : decode cX6_smalls 6 = .ok (.aload_n 0, 1) := by decide +kernel
theorem dX6_smalls_7 : decode cX6_smalls 7 = .ok (.iload_n 1, 1) := by decide +kernel
theorem dX6_smalls_8 : decode cX6_smalls 8 = .ok (.bipush 14, 2) := by decide +kernel
theorem dX6_smalls_10 : decode cX6_smalls 10 = .ok (.invokevirtual 36, 3) := by decide +kernel
theorem dX6_smalls_13 : decode cX6_smalls 13 = .ok (.ifCond .lt 6, 3) := by decide +kernel
theorem dX6_smalls_16 : decode cX6_smalls 16 = .ok (.bipush 11, 2) := by decide +kernel
theorem dX6_smalls_18 : decode cX6_smalls 18 = .ok (.ireturn, 1) := by decide +kernel
theorem dX6_smalls_19 : decode cX6_smalls 19 = .ok (.iload_n 3, 1) := by decide +kernel
theorem dX6_smalls_20 : decode cX6_smalls 20 = .ok (.ifCond .ge 5, 3) := by decide +kernel
theorem dX6_smalls_23 : decode cX6_smalls 23 = .ok (.iconst 4, 1) := by decide +kernel
theorem dX6_smalls_24 : decode cX6_smalls 24 = .ok (.ireturn, 1) := by decide +kernel
theorem dX6_smalls_25 : decode cX6_smalls 25 = .ok (.aload_n 0, 1) := by decide +kernel
theorem dX6_smalls_26 : decode cX6_smalls 26 = .ok (.iload_n 1, 1) := by decide +kernel
theorem dX6_smalls_27 : decode cX6_smalls 27 = .ok (.bipush 14, 2) := by decide +kernel
theorem dX6_smalls_29 : decode cX6_smalls 29 = .ok (.iload_n 3, 1) := by decide +kernel
theorem dX6_smalls_30 : decode cX6_smalls 30 = .ok (.invokevirtual 59, 3) := by decide +kernel
theorem dX6_smalls_33 : decode cX6_smalls 33 = .ok (.iconst 0, 1) := by decide +kernel
theorem dX6_smalls_34 : decode cX6_smalls 34 = .ok (.istore 4, 2) := by decide +kernel
theorem dX6_smalls_36 : decode cX6_smalls 36 = .ok (.iload 4, 2) := by decide +kernel
theorem dX6_smalls_38 : decode cX6_smalls 38 = .ok (.iload_n 3, 1) := by decide +kernel
theorem dX6_smalls_39 : decode cX6_smalls 39 = .ok (.if_icmp .ge 27, 3) := by decide +kernel
theorem dX6_smalls_42 : decode cX6_smalls 42 = .ok (.aload_n 0, 1) := by decide +kernel
theorem dX6_smalls_43 : decode cX6_smalls 43 = .ok (.getfield 8, 3) := by decide +kernel
theorem dX6_smalls_46 : decode cX6_smalls 46 = .ok (.sipush 4400, 3) := by decide +kernel
theorem dX6_smalls_49 : decode cX6_smalls 49 = .ok (.sipush 128, 3) := by decide +kernel
theorem dX6_smalls_52 : decode cX6_smalls 52 = .ok (.iload_n 1, 1) := by decide +kernel
theorem dX6_smalls_53 : decode cX6_smalls 53 = .ok (.imul, 1) := by decide +kernel
theorem dX6_smalls_54 : decode cX6_smalls 54 = .ok (.iadd, 1) := by decide +kernel
theorem dX6_smalls_55 : decode cX6_smalls 55 = .ok (.iload 4, 2) := by decide +kernel
theorem dX6_smalls_57 : decode cX6_smalls 57 = .ok (.iadd, 1) := by decide +kernel
theorem dX6_smalls_58 : decode cX6_smalls 58 = .ok (.iconst 0, 1) := by decide +kernel
theorem dX6_smalls_59 : decode cX6_smalls 59 = .ok (.iastore, 1) := by decide +kernel
theorem dX6_smalls_60 : decode cX6_smalls 60 = .ok (.iinc 4 1, 3) := by decide +kernel
theorem dX6_smalls_63 : decode cX6_smalls 63 = .ok (.goto (-27), 3) := by decide +kernel
theorem dX6_smalls_66 : decode cX6_smalls 66 = .ok (.iconst 0, 1) := by decide +kernel
theorem dX6_smalls_67 : decode cX6_smalls 67 = .ok (.ireturn, 1) := by decide +kernel
theorem dX6_smalls_68 : decode cX6_smalls 68 = .ok (.aload_n 0, 1) := by decide +kernel
theorem dX6_smalls_69 : decode cX6_smalls 69 = .ok (.iload_n 1, 1) := by decide +kernel
theorem dX6_smalls_70 : decode cX6_smalls 70 = .ok (.bipush 14, 2) := by decide +kernel
theorem dX6_smalls_72 : decode cX6_smalls 72 = .ok (.invokevirtual 36, 3) := by decide +kernel
theorem dX6_smalls_75 : decode cX6_smalls 75 = .ok (.ifCond .ge 6, 3) := by decide +kernel
theorem dX6_smalls_78 : decode cX6_smalls 78 = .ok (.bipush 8, 2) := by decide +kernel
theorem dX6_smalls_80 : decode cX6_smalls 80 = .ok (.ireturn, 1) := by decide +kernel
theorem dX6_smalls_81 : decode cX6_smalls 81 = .ok (.iload_n 3, 1) := by decide +kernel
theorem dX6_smalls_82 : decode cX6_smalls 82 = .ok (.i2l, 1) := by decide +kernel
theorem dX6_smalls_83 : decode cX6_smalls 83 = .ok (.lconst 0, 1) := by decide +kernel
theorem dX6_smalls_84 : decode cX6_smalls 84 = .ok (.aload_n 0, 1) := by decide +kernel
theorem dX6_smalls_85 : decode cX6_smalls 85 = .ok (.iload_n 1, 1) := by decide +kernel
theorem dX6_smalls_86 : decode cX6_smalls 86 = .ok (.bipush 14, 2) := by decide +kernel
theorem dX6_smalls_88 : decode cX6_smalls 88 = .ok (.invokevirtual 36, 3) := by decide +kernel
theorem dX6_smalls_91 : decode cX6_smalls 91 = .ok (.iconst 1, 1) := by decide +kernel
theorem dX6_smalls_92 : decode cX6_smalls 92 = .ok (.isub, 1) := by decide +kernel
theorem dX6_smalls_93 : decode cX6_smalls 93 = .ok (.i2l, 1) := by decide +kernel
theorem dX6_smalls_94 : decode cX6_smalls 94 = .ok (.invokestatic 32, 3) := by decide +kernel
theorem dX6_smalls_97 : decode cX6_smalls 97 = .ok (.ifCond .ne 6, 3) := by decide +kernel
theorem dX6_smalls_100 : decode cX6_smalls 100 = .ok (.bipush 9, 2) := by decide +kernel
theorem dX6_smalls_102 : decode cX6_smalls 102 = .ok (.ireturn, 1) := by decide +kernel
theorem dX6_smalls_103 : decode cX6_smalls 103 = .ok (.sipush 4400, 3) := by decide +kernel
theorem dX6_smalls_106 : decode cX6_smalls 106 = .ok (.sipush 128, 3) := by decide +kernel
theorem dX6_smalls_109 : decode cX6_smalls 109 = .ok (.iload_n 1, 1) := by decide +kernel
theorem dX6_smalls_110 : decode cX6_smalls 110 = .ok (.imul, 1) := by decide +kernel
theorem dX6_smalls_111 : decode cX6_smalls 111 = .ok (.iadd, 1) := by decide +kernel
theorem dX6_smalls_112 : decode cX6_smalls 112 = .ok (.iload_n 3, 1) := by decide +kernel
theorem dX6_smalls_113 : decode cX6_smalls 113 = .ok (.iadd, 1) := by decide +kernel
theorem dX6_smalls_114 : decode cX6_smalls 114 = .ok (.istore 4, 2) := by decide +kernel
theorem dX6_smalls_116 : decode cX6_smalls 116 = .ok (.iload_n 2, 1) := by decide +kernel
theorem dX6_smalls_117 : decode cX6_smalls 117 = .ok (.bipush 9, 2) := by decide +kernel
theorem dX6_smalls_119 : decode cX6_smalls 119 = .ok (.if_icmp .ne 20, 3) := by decide +kernel
theorem dX6_smalls_122 : decode cX6_smalls 122 = .ok (.aload_n 0, 1) := by decide +kernel
theorem dX6_smalls_123 : decode cX6_smalls 123 = .ok (.getfield 8, 3) := by decide +kernel
theorem dX6_smalls_126 : decode cX6_smalls 126 = .ok (.iload 4, 2) := by decide +kernel
theorem dX6_smalls_128 : decode cX6_smalls 128 = .ok (.aload_n 0, 1) := by decide +kernel
theorem dX6_smalls_129 : decode cX6_smalls 129 = .ok (.getfield 8, 3) := by decide +kernel
theorem dX6_smalls_132 : decode cX6_smalls 132 = .ok (.iconst 0, 1) := by decide +kernel
theorem dX6_smalls_133 : decode cX6_smalls 133 = .ok (.iaload, 1) := by decide +kernel
theorem dX6_smalls_134 : decode cX6_smalls 134 = .ok (.i2s, 1) := by decide +kernel
theorem dX6_smalls_135 : decode cX6_smalls 135 = .ok (.iastore, 1) := by decide +kernel
theorem dX6_smalls_136 : decode cX6_smalls 136 = .ok (.goto 26, 3) := by decide +kernel
theorem dX6_smalls_139 : decode cX6_smalls 139 = .ok (.aload_n 0, 1) := by decide +kernel
theorem dX6_smalls_140 : decode cX6_smalls 140 = .ok (.getfield 8, 3) := by decide +kernel
theorem dX6_smalls_143 : decode cX6_smalls 143 = .ok (.iload 4, 2) := by decide +kernel
theorem dX6_smalls_145 : decode cX6_smalls 145 = .ok (.iaload, 1) := by decide +kernel
theorem dX6_smalls_146 : decode cX6_smalls 146 = .ok (.ifCond .le 16, 3) := by decide +kernel
theorem dX6_smalls_149 : decode cX6_smalls 149 = .ok (.aload_n 0, 1) := by decide +kernel
theorem dX6_smalls_150 : decode cX6_smalls 150 = .ok (.iload_n 1, 1) := by decide +kernel
theorem dX6_smalls_151 : decode cX6_smalls 151 = .ok (.iconst 4, 1) := by decide +kernel
theorem dX6_smalls_152 : decode cX6_smalls 152 = .ok (.aload_n 0, 1) := by decide +kernel
theorem dX6_smalls_153 : decode cX6_smalls 153 = .ok (.getfield 8, 3) := by decide +kernel
theorem dX6_smalls_156 : decode cX6_smalls 156 = .ok (.iload 4, 2) := by decide +kernel
theorem dX6_smalls_158 : decode cX6_smalls 158 = .ok (.iaload, 1) := by decide +kernel
theorem dX6_smalls_159 : decode cX6_smalls 159 = .ok (.invokevirtual 59, 3) := by decide +kernel
theorem dX6_smalls_162 : decode cX6_smalls 162 = .ok (.iconst 0, 1) := by decide +kernel
theorem dX6_smalls_163 : decode cX6_smalls 163 = .ok (.ireturn, 1) := by decide +kernel
theorem dX6_wakes_0 : decode cX6_wakes 0 = .ok (.aload_n 0, 1) := by decide +kernel
theorem dX6_wakes_1 : decode cX6_wakes 1 = .ok (.getfield 8, 3) := by decide +kernel
theorem dX6_wakes_4 : decode cX6_wakes 4 = .ok (.iconst 0, 1) := by decide +kernel
theorem dX6_wakes_5 : decode cX6_wakes 5 = .ok (.iaload, 1) := by decide +kernel
theorem dX6_wakes_6 : decode cX6_wakes 6 = .ok (.istore_n 1, 1) := by decide +kernel
theorem dX6_wakes_7 : decode cX6_wakes 7 = .ok (.iconst 0, 1) := by decide +kernel
theorem dX6_wakes_8 : decode cX6_wakes 8 = .ok (.istore_n 2, 1) := by decide +kernel
theorem dX6_wakes_9 : decode cX6_wakes 9 = .ok (.iload_n 2, 1) := by decide +kernel
theorem dX6_wakes_10 : decode cX6_wakes 10 = .ok (.aload_n 0, 1) := by decide +kernel
theorem dX6_wakes_11 : decode cX6_wakes 11 = .ok (.getfield 8, 3) := by decide +kernel
theorem dX6_wakes_14 : decode cX6_wakes 14 = .ok (.iconst 1, 1) := by decide +kernel
theorem dX6_wakes_15 : decode cX6_wakes 15 = .ok (.iaload, 1) := by decide +kernel
theorem dX6_wakes_16 : decode cX6_wakes 16 = .ok (.if_icmp .ge 108, 3) := by decide +kernel
theorem dX6_wakes_19 : decode cX6_wakes 19 = .ok (.aload_n 0, 1) := by decide +kernel
theorem dX6_wakes_20 : decode cX6_wakes 20 = .ok (.iload_n 2, 1) := by decide +kernel
theorem dX6_wakes_21 : decode cX6_wakes 21 = .ok (.bipush 6, 2) := by decide +kernel
theorem dX6_wakes_23 : decode cX6_wakes 23 = .ok (.invokevirtual 36, 3) := by decide +kernel
theorem dX6_wakes_26 : decode cX6_wakes 26 = .ok (.iconst 4, 1) := by decide +kernel
theorem dX6_wakes_27 : decode cX6_wakes 27 = .ok (.if_icmp .ne 6, 3) := by decide +kernel
theorem dX6_wakes_30 : decode cX6_wakes 30 = .ok (.goto 88, 3) := by decide +kernel
theorem dX6_wakes_33 : decode cX6_wakes 33 = .ok (.aload_n 0, 1) := by decide +kernel
theorem dX6_wakes_34 : decode cX6_wakes 34 = .ok (.iload_n 2, 1) := by decide +kernel
theorem dX6_wakes_35 : decode cX6_wakes 35 = .ok (.bipush 6, 2) := by decide +kernel
theorem dX6_wakes_37 : decode cX6_wakes 37 = .ok (.invokevirtual 36, 3) := by decide +kernel
theorem dX6_wakes_40 : decode cX6_wakes 40 = .ok (.iconst 3, 1) := by decide +kernel
theorem dX6_wakes_41 : decode cX6_wakes 41 = .ok (.if_icmp .ne 19, 3) := by decide +kernel
theorem dX6_wakes_44 : decode cX6_wakes 44 = .ok (.aload_n 0, 1) := by decide +kernel
theorem dX6_wakes_45 : decode cX6_wakes 45 = .ok (.iload_n 2, 1) := by decide +kernel
theorem dX6_wakes_46 : decode cX6_wakes 46 = .ok (.bipush 8, 2) := by decide +kernel
theorem dX6_wakes_48 : decode cX6_wakes 48 = .ok (.invokevirtual 36, 3) := by decide +kernel
theorem dX6_wakes_51 : decode cX6_wakes 51 = .ok (.iload_n 1, 1) := by decide +kernel
theorem dX6_wakes_52 : decode cX6_wakes 52 = .ok (.if_icmp .ne 8, 3) := by decide +kernel
theorem dX6_wakes_55 : decode cX6_wakes 55 = .ok (.aload_n 0, 1) := by decide +kernel
theorem dX6_wakes_56 : decode cX6_wakes 56 = .ok (.iload_n 2, 1) := by decide +kernel
theorem dX6_wakes_57 : decode cX6_wakes 57 = .ok (.invokevirtual 70, 3) := by decide +kernel
theorem dX6_wakes_60 : decode cX6_wakes 60 = .ok (.aload_n 0, 1) := by decide +kernel
theorem dX6_wakes_61 : decode cX6_wakes 61 = .ok (.iload_n 2, 1) := by decide +kernel
theorem dX6_wakes_62 : decode cX6_wakes 62 = .ok (.invokevirtual 43, 3) := by decide +kernel
theorem dX6_wakes_65 : decode cX6_wakes 65 = .ok (.ifCond .eq 53, 3) := by decide +kernel
theorem dX6_wakes_68 : decode cX6_wakes 68 = .ok (.aload_n 0, 1) := by decide +kernel
theorem dX6_wakes_69 : decode cX6_wakes 69 = .ok (.iload_n 2, 1) := by decide +kernel
theorem dX6_wakes_70 : decode cX6_wakes 70 = .ok (.bipush 12, 2) := by decide +kernel
theorem dX6_wakes_72 : decode cX6_wakes 72 = .ok (.invokevirtual 36, 3) := by decide +kernel
theorem dX6_wakes_75 : decode cX6_wakes 75 = .ok (.iload_n 1, 1) := by decide +kernel
theorem dX6_wakes_76 : decode cX6_wakes 76 = .ok (.if_icmp .eq 6, 3) := by decide +kernel
theorem dX6_wakes_79 : decode cX6_wakes 79 = .ok (.goto 39, 3) := by decide +kernel
theorem dX6_wakes_82 : decode cX6_wakes 82 = .ok (.aload_n 0, 1) := by decide +kernel
theorem dX6_wakes_83 : decode cX6_wakes 83 = .ok (.iload_n 2, 1) := by decide +kernel
theorem dX6_wakes_84 : decode cX6_wakes 84 = .ok (.bipush 12, 2) := by decide +kernel
theorem dX6_wakes_86 : decode cX6_wakes 86 = .ok (.iload_n 1, 1) := by decide +kernel
theorem dX6_wakes_87 : decode cX6_wakes 87 = .ok (.aload_n 0, 1) := by decide +kernel
theorem dX6_wakes_88 : decode cX6_wakes 88 = .ok (.iload_n 2, 1) := by decide +kernel
theorem dX6_wakes_89 : decode cX6_wakes 89 = .ok (.bipush 10, 2) := by decide +kernel
theorem dX6_wakes_91 : decode cX6_wakes 91 = .ok (.invokevirtual 36, 3) := by decide +kernel
theorem dX6_wakes_94 : decode cX6_wakes 94 = .ok (.iadd, 1) := by decide +kernel
theorem dX6_wakes_95 : decode cX6_wakes 95 = .ok (.invokevirtual 59, 3) := by decide +kernel
theorem dX6_wakes_98 : decode cX6_wakes 98 = .ok (.aload_n 0, 1) := by decide +kernel
theorem dX6_wakes_99 : decode cX6_wakes 99 = .ok (.iload_n 2, 1) := by decide +kernel
theorem dX6_wakes_100 : decode cX6_wakes 100 = .ok (.bipush 13, 2) := by decide +kernel
theorem dX6_wakes_102 : decode cX6_wakes 102 = .ok (.aload_n 0, 1) := by decide +kernel
theorem dX6_wakes_103 : decode cX6_wakes 103 = .ok (.iload_n 2, 1) := by decide +kernel
theorem dX6_wakes_104 : decode cX6_wakes 104 = .ok (.bipush 11, 2) := by decide +kernel
theorem dX6_wakes_106 : decode cX6_wakes 106 = .ok (.invokevirtual 36, 3) := by decide +kernel
theorem dX6_wakes_109 : decode cX6_wakes 109 = .ok (.invokevirtual 59, 3) := by decide +kernel
theorem dX6_wakes_112 : decode cX6_wakes 112 = .ok (.aload_n 0, 1) := by decide +kernel
theorem dX6_wakes_113 : decode cX6_wakes 113 = .ok (.bipush 9, 2) := by decide +kernel
theorem dX6_wakes_115 : decode cX6_wakes 115 = .ok (.invokevirtual 63, 3) := by decide +kernel
theorem dX6_wakes_118 : decode cX6_wakes 118 = .ok (.iinc 2 1, 3) := by decide +kernel
theorem dX6_wakes_121 : decode cX6_wakes 121 = .ok (.goto (-112), 3) := by decide +kernel
theorem dX6_wakes_124 : decode cX6_wakes 124 = .ok (.return_, 1) := by decide +kernel
theorem dX6_chooses_0 : decode cX6_chooses 0 = .ok (.iconst (-1), 1) := by decide +kernel
theorem dX6_chooses_1 : decode cX6_chooses 1 = .ok (.istore_n 2, 1) := by decide +kernel
theorem dX6_chooses_2 : decode cX6_chooses 2 = .ok (.iconst (-1), 1) := by decide +kernel
theorem dX6_chooses_3 : decode cX6_chooses 3 = .ok (.istore_n 3, 1) := by decide +kernel
theorem dX6_chooses_4 : decode cX6_chooses 4 = .ok (.iconst 0, 1) := by decide +kernel
theorem dX6_chooses_5 : decode cX6_chooses 5 = .ok (.istore 4, 2) := by decide +kernel
theorem dX6_chooses_7 : decode cX6_chooses 7 = .ok (.iload 4, 2) := by decide +kernel
theorem dX6_chooses_9 : decode cX6_chooses 9 = .ok (.aload_n 0, 1) := by decide +kernel
theorem dX6_chooses_10 : decode cX6_chooses 10 = .ok (.getfield 8, 3) := by decide +kernel
theorem dX6_chooses_13 : decode cX6_chooses 13 = .ok (.iconst 1, 1) := by decide +kernel
theorem dX6_chooses_14 : decode cX6_chooses 14 = .ok (.iaload, 1) := by decide +kernel
theorem dX6_chooses_15 : decode cX6_chooses 15 = .ok (.if_icmp .ge 61, 3) := by decide +kernel
theorem dX6_chooses_18 : decode cX6_chooses 18 = .ok (.aload_n 0, 1) := by decide +kernel
theorem dX6_chooses_19 : decode cX6_chooses 19 = .ok (.iload 4, 2) := by decide +kernel
theorem dX6_chooses_21 : decode cX6_chooses 21 = .ok (.bipush 6, 2) := by decide +kernel
theorem dX6_chooses_23 : decode cX6_chooses 23 = .ok (.invokevirtual 36, 3) := by decide +kernel
theorem dX6_chooses_26 : decode cX6_chooses 26 = .ok (.ifCond .ne 44, 3) := by decide +kernel
theorem dX6_chooses_29 : decode cX6_chooses 29 = .ok (.aload_n 0, 1) := by decide +kernel
theorem dX6_chooses_30 : decode cX6_chooses 30 = .ok (.getfield 28, 3) := by decide +kernel
theorem dX6_chooses_33 : decode cX6_chooses 33 = .ok (.iload 4, 2) := by decide +kernel
theorem dX6_chooses_35 : decode cX6_chooses 35 = .ok (.baload, 1) := by decide +kernel
theorem dX6_chooses_36 : decode cX6_chooses 36 = .ok (.ifCond .eq 6, 3) := by decide +kernel
theorem dX6_chooses_39 : decode cX6_chooses 39 = .ok (.goto 31, 3) := by decide +kernel
theorem dX6_chooses_42 : decode cX6_chooses 42 = .ok (.aload_n 0, 1) := by decide +kernel
theorem dX6_chooses_43 : decode cX6_chooses 43 = .ok (.iload 4, 2) := by decide +kernel
theorem dX6_chooses_45 : decode cX6_chooses 45 = .ok (.invokevirtual 67, 3) := by decide +kernel
theorem dX6_chooses_48 : decode cX6_chooses 48 = .ok (.istore 5, 2) := by decide +kernel
theorem dX6_chooses_50 : decode cX6_chooses 50 = .ok (.iload_n 2, 1) := by decide +kernel
theorem dX6_chooses_51 : decode cX6_chooses 51 = .ok (.ifCond .lt 13, 3) := by decide +kernel
theorem dX6_chooses_54 : decode cX6_chooses 54 = .ok (.aload_n 0, 1) := by decide +kernel
theorem dX6_chooses_55 : decode cX6_chooses 55 = .ok (.iload 5, 2) := by decide +kernel
theorem dX6_chooses_57 : decode cX6_chooses 57 = .ok (.iload_n 3, 1) := by decide +kernel
theorem dX6_chooses_58 : decode cX6_chooses 58 = .ok (.invokevirtual 55, 3) := by decide +kernel
theorem dX6_chooses_61 : decode cX6_chooses 61 = .ok (.ifCond .eq 9, 3) := by decide +kernel
theorem dX6_chooses_64 : decode cX6_chooses 64 = .ok (.iload 4, 2) := by decide +kernel
theorem dX6_chooses_66 : decode cX6_chooses 66 = .ok (.istore_n 2, 1) := by decide +kernel
theorem dX6_chooses_67 : decode cX6_chooses 67 = .ok (.iload 5, 2) := by decide +kernel
theorem dX6_chooses_69 : decode cX6_chooses 69 = .ok (.istore_n 3, 1) := by decide +kernel
theorem dX6_chooses_70 : decode cX6_chooses 70 = .ok (.iinc 4 1, 3) := by decide +kernel
theorem dX6_chooses_73 : decode cX6_chooses 73 = .ok (.goto (-66), 3) := by decide +kernel
theorem dX6_chooses_76 : decode cX6_chooses 76 = .ok (.aload_n 0, 1) := by decide +kernel
theorem dX6_chooses_77 : decode cX6_chooses 77 = .ok (.getfield 8, 3) := by decide +kernel
theorem dX6_chooses_80 : decode cX6_chooses 80 = .ok (.bipush 7, 2) := by decide +kernel
theorem dX6_chooses_82 : decode cX6_chooses 82 = .ok (.iload_n 1, 1) := by decide +kernel
theorem dX6_chooses_83 : decode cX6_chooses 83 = .ok (.iadd, 1) := by decide +kernel
theorem dX6_chooses_84 : decode cX6_chooses 84 = .ok (.iload_n 2, 1) := by decide +kernel
theorem dX6_chooses_85 : decode cX6_chooses 85 = .ok (.iastore, 1) := by decide +kernel
theorem dX6_chooses_86 : decode cX6_chooses 86 = .ok (.iload_n 2, 1) := by decide +kernel
theorem dX6_chooses_87 : decode cX6_chooses 87 = .ok (.ifCond .ge 4, 3) := by decide +kernel
theorem dX6_chooses_90 : decode cX6_chooses 90 = .ok (.return_, 1) := by decide +kernel
theorem dX6_chooses_91 : decode cX6_chooses 91 = .ok (.aload_n 0, 1) := by decide +kernel
theorem dX6_chooses_92 : decode cX6_chooses 92 = .ok (.getfield 28, 3) := by decide +kernel
theorem dX6_chooses_95 : decode cX6_chooses 95 = .ok (.iload_n 2, 1) := by decide +kernel
theorem dX6_chooses_96 : decode cX6_chooses 96 = .ok (.iconst 1, 1) := by decide +kernel
theorem dX6_chooses_97 : decode cX6_chooses 97 = .ok (.bastore, 1) := by decide +kernel
theorem dX6_chooses_98 : decode cX6_chooses 98 = .ok (.iconst 5, 1) := by decide +kernel
theorem dX6_chooses_99 : decode cX6_chooses 99 = .ok (.aload_n 0, 1) := by decide +kernel
theorem dX6_chooses_100 : decode cX6_chooses 100 = .ok (.getfield 8, 3) := by decide +kernel
theorem dX6_chooses_103 : decode cX6_chooses 103 = .ok (.iconst 3, 1) := by decide +kernel
theorem dX6_chooses_104 : decode cX6_chooses 104 = .ok (.iaload, 1) := by decide +kernel
theorem dX6_chooses_105 : decode cX6_chooses 105 = .ok (.imul, 1) := by decide +kernel
theorem dX6_chooses_106 : decode cX6_chooses 106 = .ok (.istore 4, 2) := by decide +kernel
theorem dX6_chooses_108 : decode cX6_chooses 108 = .ok (.aload_n 0, 1) := by decide +kernel
theorem dX6_chooses_109 : decode cX6_chooses 109 = .ok (.iload 4, 2) := by decide +kernel
theorem dX6_chooses_111 : decode cX6_chooses 111 = .ok (.aload_n 0, 1) := by decide +kernel
theorem dX6_chooses_112 : decode cX6_chooses 112 = .ok (.getfield 8, 3) := by decide +kernel
theorem dX6_chooses_115 : decode cX6_chooses 115 = .ok (.iconst 0, 1) := by decide +kernel
theorem dX6_chooses_116 : decode cX6_chooses 116 = .ok (.iaload, 1) := by decide +kernel
theorem dX6_chooses_117 : decode cX6_chooses 117 = .ok (.iload_n 1, 1) := by decide +kernel
theorem dX6_chooses_118 : decode cX6_chooses 118 = .ok (.iload_n 2, 1) := by decide +kernel
theorem dX6_chooses_119 : decode cX6_chooses 119 = .ok (.aload_n 0, 1) := by decide +kernel
theorem dX6_chooses_120 : decode cX6_chooses 120 = .ok (.iload_n 3, 1) := by decide +kernel
theorem dX6_chooses_121 : decode cX6_chooses 121 = .ok (.invokevirtual 47, 3) := by decide +kernel
theorem dX6_chooses_124 : decode cX6_chooses 124 = .ok (.aload_n 0, 1) := by decide +kernel
theorem dX6_chooses_125 : decode cX6_chooses 125 = .ok (.iload_n 3, 1) := by decide +kernel
theorem dX6_chooses_126 : decode cX6_chooses 126 = .ok (.invokevirtual 51, 3) := by decide +kernel
theorem dX6_chooses_129 : decode cX6_chooses 129 = .ok (.l2i, 1) := by decide +kernel
theorem dX6_chooses_130 : decode cX6_chooses 130 = .ok (.invokevirtual 136, 3) := by decide +kernel
theorem dX6_chooses_133 : decode cX6_chooses 133 = .ok (.aload_n 0, 1) := by decide +kernel
theorem dX6_chooses_134 : decode cX6_chooses 134 = .ok (.getfield 8, 3) := by decide +kernel
theorem dX6_chooses_137 : decode cX6_chooses 137 = .ok (.iconst 3, 1) := by decide +kernel
theorem dX6_chooses_138 : decode cX6_chooses 138 = .ok (.dup2, 1) := by decide +kernel
theorem dX6_chooses_139 : decode cX6_chooses 139 = .ok (.iaload, 1) := by decide +kernel
theorem dX6_chooses_140 : decode cX6_chooses 140 = .ok (.iconst 1, 1) := by decide +kernel
theorem dX6_chooses_141 : decode cX6_chooses 141 = .ok (.iadd, 1) := by decide +kernel
theorem dX6_chooses_142 : decode cX6_chooses 142 = .ok (.iastore, 1) := by decide +kernel
theorem dX6_chooses_143 : decode cX6_chooses 143 = .ok (.return_, 1) := by decide +kernel
theorem dX6_puts_0 : decode cX6_puts 0 = .ok (.iconst 0, 1) := by decide +kernel
theorem dX6_puts_1 : decode cX6_puts 1 = .ok (.istore 7, 2) := by decide +kernel
theorem dX6_puts_3 : decode cX6_puts 3 = .ok (.iload 7, 2) := by decide +kernel
theorem dX6_puts_5 : decode cX6_puts 5 = .ok (.iconst 5, 1) := by decide +kernel
theorem dX6_puts_6 : decode cX6_puts 6 = .ok (.if_icmp .ge 82, 3) := by decide +kernel
theorem dX6_puts_9 : decode cX6_puts 9 = .ok (.iload 7, 2) := by decide +kernel
theorem dX6_puts_11 : decode cX6_puts 11 = .ok (.ifCond .ne 7, 3) := by decide +kernel
theorem dX6_puts_14 : decode cX6_puts 14 = .ok (.iload_n 2, 1) := by decide +kernel
theorem dX6_puts_15 : decode cX6_puts 15 = .ok (.goto 37, 3) := by decide +kernel
theorem dX6_puts_18 : decode cX6_puts 18 = .ok (.iload 7, 2) := by decide +kernel
theorem dX6_puts_20 : decode cX6_puts 20 = .ok (.iconst 1, 1) := by decide +kernel
theorem dX6_puts_21 : decode cX6_puts 21 = .ok (.if_icmp .ne 7, 3) := by decide +kernel
theorem dX6_puts_24 : decode cX6_puts 24 = .ok (.iload_n 3, 1) := by decide +kernel
theorem dX6_puts_25 : decode cX6_puts 25 = .ok (.goto 27, 3) := by decide +kernel
theorem dX6_puts_28 : decode cX6_puts 28 = .ok (.iload 7, 2) := by decide +kernel
theorem dX6_puts_30 : decode cX6_puts 30 = .ok (.iconst 2, 1) := by decide +kernel
theorem dX6_puts_31 : decode cX6_puts 31 = .ok (.if_icmp .ne 8, 3) := by decide +kernel
theorem dX6_puts_34 : decode cX6_puts 34 = .ok (.iload 4, 2) := by decide +kernel
theorem dX6_puts_36 : decode cX6_puts 36 = .ok (.goto 16, 3) := by decide +kernel
theorem dX6_puts_39 : decode cX6_puts 39 = .ok (.iload 7, 2) := by decide +kernel
theorem dX6_puts_41 : decode cX6_puts 41 = .ok (.iconst 3, 1) := by decide +kernel
theorem dX6_puts_42 : decode cX6_puts 42 = .ok (.if_icmp .ne 8, 3) := by decide +kernel
theorem dX6_puts_45 : decode cX6_puts 45 = .ok (.iload 5, 2) := by decide +kernel
theorem dX6_puts_47 : decode cX6_puts 47 = .ok (.goto 5, 3) := by decide +kernel
theorem dX6_puts_50 : decode cX6_puts 50 = .ok (.iload 6, 2) := by decide +kernel
theorem dX6_puts_52 : decode cX6_puts 52 = .ok (.istore 8, 2) := by decide +kernel
theorem dX6_puts_54 : decode cX6_puts 54 = .ok (.aload_n 0, 1) := by decide +kernel
theorem dX6_puts_55 : decode cX6_puts 55 = .ok (.getfield 8, 3) := by decide +kernel
theorem dX6_puts_58 : decode cX6_puts 58 = .ok (.ldc 140, 2) := by decide +kernel
theorem dX6_puts_60 : decode cX6_puts 60 = .ok (.iload_n 1, 1) := by decide +kernel
theorem dX6_puts_61 : decode cX6_puts 61 = .ok (.iadd, 1) := by decide +kernel
theorem dX6_puts_62 : decode cX6_puts 62 = .ok (.iload 7, 2) := by decide +kernel
theorem dX6_puts_64 : decode cX6_puts 64 = .ok (.iadd, 1) := by decide +kernel
theorem dX6_puts_65 : decode cX6_puts 65 = .ok (.iload 8, 2) := by decide +kernel
theorem dX6_puts_67 : decode cX6_puts 67 = .ok (.iastore, 1) := by decide +kernel
theorem dX6_puts_68 : decode cX6_puts 68 = .ok (.aload_n 0, 1) := by decide +kernel
theorem dX6_puts_69 : decode cX6_puts 69 = .ok (.getfield 8, 3) := by decide +kernel
theorem dX6_puts_72 : decode cX6_puts 72 = .ok (.ldc 141, 2) := by decide +kernel
theorem dX6_puts_74 : decode cX6_puts 74 = .ok (.iload_n 1, 1) := by decide +kernel
theorem dX6_puts_75 : decode cX6_puts 75 = .ok (.iadd, 1) := by decide +kernel
theorem dX6_puts_76 : decode cX6_puts 76 = .ok (.iload 7, 2) := by decide +kernel
theorem dX6_puts_78 : decode cX6_puts 78 = .ok (.iadd, 1) := by decide +kernel
theorem dX6_puts_79 : decode cX6_puts 79 = .ok (.iload 8, 2) := by decide +kernel
theorem dX6_puts_81 : decode cX6_puts 81 = .ok (.iastore, 1) := by decide +kernel
theorem dX6_puts_82 : decode cX6_puts 82 = .ok (.iinc 7 1, 3) := by decide +kernel
theorem dX6_puts_85 : decode cX6_puts 85 = .ok (.goto (-82), 3) := by decide +kernel
theorem dX6_puts_88 : decode cX6_puts 88 = .ok (.return_, 1) := by decide +kernel
theorem dX6_tick_0 : decode cX6_tick 0 = .ok (.aload_n 0, 1) := by decide +kernel
theorem dX6_tick_1 : decode cX6_tick 1 = .ok (.invokevirtual 142, 3) := by decide +kernel
theorem dX6_tick_4 : decode cX6_tick 4 = .ok (.iconst 0, 1) := by decide +kernel
theorem dX6_tick_5 : decode cX6_tick 5 = .ok (.istore_n 1, 1) := by decide +kernel
theorem dX6_tick_6 : decode cX6_tick 6 = .ok (.iload_n 1, 1) := by decide +kernel
theorem dX6_tick_7 : decode cX6_tick 7 = .ok (.sipush 200, 3) := by decide +kernel
theorem dX6_tick_10 : decode cX6_tick 10 = .ok (.if_icmp .ge 16, 3) := by decide +kernel
theorem dX6_tick_13 : decode cX6_tick 13 = .ok (.aload_n 0, 1) := by decide +kernel
theorem dX6_tick_14 : decode cX6_tick 14 = .ok (.getfield 28, 3) := by decide +kernel
theorem dX6_tick_17 : decode cX6_tick 17 = .ok (.iload_n 1, 1) := by decide +kernel
theorem dX6_tick_18 : decode cX6_tick 18 = .ok (.iconst 0, 1) := by decide +kernel
theorem dX6_tick_19 : decode cX6_tick 19 = .ok (.bastore, 1) := by decide +kernel
theorem dX6_tick_20 : decode cX6_tick 20 = .ok (.iinc 1 1, 3) := by decide +kernel
theorem dX6_tick_23 : decode cX6_tick 23 = .ok (.goto (-17), 3) := by decide +kernel
theorem dX6_tick_26 : decode cX6_tick 26 = .ok (.iconst 0, 1) := by decide +kernel
theorem dX6_tick_27 : decode cX6_tick 27 = .ok (.istore_n 1, 1) := by decide +kernel
theorem dX6_tick_28 : decode cX6_tick 28 = .ok (.iload_n 1, 1) := by decide +kernel
theorem dX6_tick_29 : decode cX6_tick 29 = .ok (.iconst 4, 1) := by decide +kernel
theorem dX6_tick_30 : decode cX6_tick 30 = .ok (.if_icmp .ge 19, 3) := by decide +kernel
theorem dX6_tick_33 : decode cX6_tick 33 = .ok (.aload_n 0, 1) := by decide +kernel
theorem dX6_tick_34 : decode cX6_tick 34 = .ok (.getfield 8, 3) := by decide +kernel
theorem dX6_tick_37 : decode cX6_tick 37 = .ok (.bipush 7, 2) := by decide +kernel
theorem dX6_tick_39 : decode cX6_tick 39 = .ok (.iload_n 1, 1) := by decide +kernel
theorem dX6_tick_40 : decode cX6_tick 40 = .ok (.iadd, 1) := by decide +kernel
theorem dX6_tick_41 : decode cX6_tick 41 = .ok (.iconst (-1), 1) := by decide +kernel
theorem dX6_tick_42 : decode cX6_tick 42 = .ok (.iastore, 1) := by decide +kernel
theorem dX6_tick_43 : decode cX6_tick 43 = .ok (.iinc 1 1, 3) := by decide +kernel
theorem dX6_tick_46 : decode cX6_tick 46 = .ok (.goto (-18), 3) := by decide +kernel
theorem dX6_tick_49 : decode cX6_tick 49 = .ok (.iconst 0, 1) := by decide +kernel
theorem dX6_tick_50 : decode cX6_tick 50 = .ok (.istore_n 1, 1) := by decide +kernel
theorem dX6_tick_51 : decode cX6_tick 51 = .ok (.iload_n 1, 1) := by decide +kernel
theorem dX6_tick_52 : decode cX6_tick 52 = .ok (.aload_n 0, 1) := by decide +kernel
theorem dX6_tick_53 : decode cX6_tick 53 = .ok (.getfield 8, 3) := by decide +kernel
theorem dX6_tick_56 : decode cX6_tick 56 = .ok (.iconst 2, 1) := by decide +kernel
theorem dX6_tick_57 : decode cX6_tick 57 = .ok (.iaload, 1) := by decide +kernel
theorem dX6_tick_58 : decode cX6_tick 58 = .ok (.if_icmp .ge 14, 3) := by decide +kernel
theorem dX6_tick_61 : decode cX6_tick 61 = .ok (.aload_n 0, 1) := by decide +kernel
theorem dX6_tick_62 : decode cX6_tick 62 = .ok (.iload_n 1, 1) := by decide +kernel
theorem dX6_tick_63 : decode cX6_tick 63 = .ok (.invokevirtual 145, 3) := by decide +kernel
theorem dX6_tick_66 : decode cX6_tick 66 = .ok (.iinc 1 1, 3) := by decide +kernel
theorem dX6_tick_69 : decode cX6_tick 69 = .ok (.goto (-18), 3) := by decide +kernel
theorem dX6_tick_72 : decode cX6_tick 72 = .ok (.iconst 0, 1) := by decide +kernel
theorem dX6_tick_73 : decode cX6_tick 73 = .ok (.istore_n 1, 1) := by decide +kernel
theorem dX6_tick_74 : decode cX6_tick 74 = .ok (.iload_n 1, 1) := by decide +kernel
theorem dX6_tick_75 : decode cX6_tick 75 = .ok (.aload_n 0, 1) := by decide +kernel
theorem dX6_tick_76 : decode cX6_tick 76 = .ok (.getfield 8, 3) := by decide +kernel
theorem dX6_tick_79 : decode cX6_tick 79 = .ok (.iconst 2, 1) := by decide +kernel
theorem dX6_tick_80 : decode cX6_tick 80 = .ok (.iaload, 1) := by decide +kernel
theorem dX6_tick_81 : decode cX6_tick 81 = .ok (.if_icmp .ge 34, 3) := by decide +kernel
theorem dX6_tick_84 : decode cX6_tick 84 = .ok (.aload_n 0, 1) := by decide +kernel
theorem dX6_tick_85 : decode cX6_tick 85 = .ok (.getfield 8, 3) := by decide +kernel
theorem dX6_tick_88 : decode cX6_tick 88 = .ok (.bipush 7, 2) := by decide +kernel
theorem dX6_tick_90 : decode cX6_tick 90 = .ok (.iload_n 1, 1) := by decide +kernel
theorem dX6_tick_91 : decode cX6_tick 91 = .ok (.iadd, 1) := by decide +kernel
theorem dX6_tick_92 : decode cX6_tick 92 = .ok (.iaload, 1) := by decide +kernel
theorem dX6_tick_93 : decode cX6_tick 93 = .ok (.ifCond .lt 16, 3) := by decide +kernel
theorem dX6_tick_96 : decode cX6_tick 96 = .ok (.aload_n 0, 1) := by decide +kernel
theorem dX6_tick_97 : decode cX6_tick 97 = .ok (.aload_n 0, 1) := by decide +kernel
theorem dX6_tick_98 : decode cX6_tick 98 = .ok (.getfield 8, 3) := by decide +kernel
theorem dX6_tick_101 : decode cX6_tick 101 = .ok (.bipush 7, 2) := by decide +kernel
theorem dX6_tick_103 : decode cX6_tick 103 = .ok (.iload_n 1, 1) := by decide +kernel
theorem dX6_tick_104 : decode cX6_tick 104 = .ok (.iadd, 1) := by decide +kernel
theorem dX6_tick_105 : decode cX6_tick 105 = .ok (.iaload, 1) := by decide +kernel
theorem dX6_tick_106 : decode cX6_tick 106 = .ok (.invokevirtual 148, 3) := by decide +kernel
theorem dX6_tick_109 : decode cX6_tick 109 = .ok (.iinc 1 1, 3) := by decide +kernel
theorem dX6_tick_112 : decode cX6_tick 112 = .ok (.goto (-38), 3) := by decide +kernel
theorem dX6_tick_115 : decode cX6_tick 115 = .ok (.aload_n 0, 1) := by decide +kernel
theorem dX6_tick_116 : decode cX6_tick 116 = .ok (.getfield 8, 3) := by decide +kernel
theorem dX6_tick_119 : decode cX6_tick 119 = .ok (.iconst 0, 1) := by decide +kernel
theorem dX6_tick_120 : decode cX6_tick 120 = .ok (.dup2, 1) := by decide +kernel
theorem dX6_tick_121 : decode cX6_tick 121 = .ok (.iaload, 1) := by decide +kernel
theorem dX6_tick_122 : decode cX6_tick 122 = .ok (.iconst 1, 1) := by decide +kernel
theorem dX6_tick_123 : decode cX6_tick 123 = .ok (.iadd, 1) := by decide +kernel
theorem dX6_tick_124 : decode cX6_tick 124 = .ok (.iastore, 1) := by decide +kernel
theorem dX6_tick_125 : decode cX6_tick 125 = .ok (.return_, 1) := by decide +kernel
theorem dX6_program_0 : decode cX6_program 0 = .ok (.iload_n 1, 1) := by decide +kernel
theorem dX6_program_1 : decode cX6_program 1 = .ok (.i2l, 1) := by decide +kernel
theorem dX6_program_2 : decode cX6_program 2 = .ok (.lconst 0, 1) := by decide +kernel
theorem dX6_program_3 : decode cX6_program 3 = .ok (.ldc2_w 125, 3) := by decide +kernel
theorem dX6_program_6 : decode cX6_program 6 = .ok (.invokestatic 32, 3) := by decide +kernel
theorem dX6_program_9 : decode cX6_program 9 = .ok (.ifCond .eq 20, 3) := by decide +kernel
theorem dX6_program_12 : decode cX6_program 12 = .ok (.aload_n 0, 1) := by decide +kernel
theorem dX6_program_13 : decode cX6_program 13 = .ok (.getfield 8, 3) := by decide +kernel
theorem dX6_program_16 : decode cX6_program 16 = .ok (.sipush 340, 3) := by decide +kernel
theorem dX6_program_19 : decode cX6_program 19 = .ok (.iload_n 1, 1) := by decide +kernel
theorem dX6_program_20 : decode cX6_program 20 = .ok (.iadd, 1) := by decide +kernel
theorem dX6_program_21 : decode cX6_program 21 = .ok (.iaload, 1) := by decide +kernel
theorem dX6_program_22 : decode cX6_program 22 = .ok (.iconst 0, 1) := by decide +kernel
theorem dX6_program_23 : decode cX6_program 23 = .ok (.invokestatic 120, 3) := by decide +kernel
theorem dX6_program_26 : decode cX6_program 26 = .ok (.goto 4, 3) := by decide +kernel
theorem dX6_program_29 : decode cX6_program 29 = .ok (.iconst 0, 1) := by decide +kernel
theorem dX6_program_30 : decode cX6_program 30 = .ok (.istore 5, 2) := by decide +kernel
theorem dX6_program_32 : decode cX6_program 32 = .ok (.iload_n 1, 1) := by decide +kernel
theorem dX6_program_33 : decode cX6_program 33 = .ok (.i2l, 1) := by decide +kernel
theorem dX6_program_34 : decode cX6_program 34 = .ok (.lconst 0, 1) := by decide +kernel
theorem dX6_program_35 : decode cX6_program 35 = .ok (.ldc2_w 125, 3) := by decide +kernel
theorem dX6_program_38 : decode cX6_program 38 = .ok (.invokestatic 32, 3) := by decide +kernel
theorem dX6_program_41 : decode cX6_program 41 = .ok (.ifCond .eq 20, 3) := by decide +kernel
theorem dX6_program_44 : decode cX6_program 44 = .ok (.iload 4, 2) := by decide +kernel
theorem dX6_program_46 : decode cX6_program 46 = .ok (.i2l, 1) := by decide +kernel
theorem dX6_program_47 : decode cX6_program 47 = .ok (.lconst 0, 1) := by decide +kernel
theorem dX6_program_48 : decode cX6_program 48 = .ok (.ldc2_w 151, 3) := by decide +kernel
theorem dX6_program_51 : decode cX6_program 51 = .ok (.invokestatic 32, 3) := by decide +kernel
theorem dX6_program_54 : decode cX6_program 54 = .ok (.ifCond .eq 7, 3) := by decide +kernel
theorem dX6_program_57 : decode cX6_program 57 = .ok (.iconst 1, 1) := by decide +kernel
theorem dX6_program_58 : decode cX6_program 58 = .ok (.goto 4, 3) := by decide +kernel
theorem dX6_program_61 : decode cX6_program 61 = .ok (.iconst 0, 1) := by decide +kernel
theorem dX6_program_62 : decode cX6_program 62 = .ok (.istore 6, 2) := by decide +kernel
theorem dX6_program_64 : decode cX6_program 64 = .ok (.aload_n 0, 1) := by decide +kernel
theorem dX6_program_65 : decode cX6_program 65 = .ok (.iload 6, 2) := by decide +kernel
theorem dX6_program_67 : decode cX6_program 67 = .ok (.ifCond .ne 7, 3) := by decide +kernel
theorem dX6_program_70 : decode cX6_program 70 = .ok (.iconst 1, 1) := by decide +kernel
theorem dX6_program_71 : decode cX6_program 71 = .ok (.goto 19, 3) := by decide +kernel
theorem dX6_program_74 : decode cX6_program 74 = .ok (.iload 5, 2) := by decide +kernel
theorem dX6_program_76 : decode cX6_program 76 = .ok (.iload 4, 2) := by decide +kernel
theorem dX6_program_78 : decode cX6_program 78 = .ok (.iadd, 1) := by decide +kernel
theorem dX6_program_79 : decode cX6_program 79 = .ok (.sipush 1000, 3) := by decide +kernel
theorem dX6_program_82 : decode cX6_program 82 = .ok (.if_icmp .le 7, 3) := by decide +kernel
theorem dX6_program_85 : decode cX6_program 85 = .ok (.iconst 2, 1) := by decide +kernel
theorem dX6_program_86 : decode cX6_program 86 = .ok (.goto 4, 3) := by decide +kernel
theorem dX6_program_89 : decode cX6_program 89 = .ok (.iconst 0, 1) := by decide +kernel
theorem dX6_program_90 : decode cX6_program 90 = .ok (.invokevirtual 153, 3) := by decide +kernel
theorem dX6_program_93 : decode cX6_program 93 = .ok (.ifCond .eq 5, 3) := by decide +kernel
theorem dX6_program_96 : decode cX6_program 96 = .ok (.iconst (-1), 1) := by decide +kernel
theorem dX6_program_97 : decode cX6_program 97 = .ok (.ireturn, 1) := by decide +kernel
theorem dX6_program_98 : decode cX6_program 98 = .ok (.iconst 0, 1) := by decide +kernel
theorem dX6_program_99 : decode cX6_program 99 = .ok (.istore 7, 2) := by decide +kernel
theorem dX6_program_101 : decode cX6_program 101 = .ok (.iload 7, 2) := by decide +kernel
theorem dX6_program_103 : decode cX6_program 103 = .ok (.iload 4, 2) := by decide +kernel
theorem dX6_program_105 : decode cX6_program 105 = .ok (.if_icmp .ge 41, 3) := by decide +kernel
theorem dX6_program_108 : decode cX6_program 108 = .ok (.aload_n 0, 1) := by decide +kernel
theorem dX6_program_109 : decode cX6_program 109 = .ok (.getfield 8, 3) := by decide +kernel
theorem dX6_program_112 : decode cX6_program 112 = .ok (.sipush 30000, 3) := by decide +kernel
theorem dX6_program_115 : decode cX6_program 115 = .ok (.sipush 1000, 3) := by decide +kernel
theorem dX6_program_118 : decode cX6_program 118 = .ok (.iload_n 1, 1) := by decide +kernel
theorem dX6_program_119 : decode cX6_program 119 = .ok (.imul, 1) := by decide +kernel
theorem dX6_program_120 : decode cX6_program 120 = .ok (.iadd, 1) := by decide +kernel
theorem dX6_program_121 : decode cX6_program 121 = .ok (.iload 5, 2) := by decide +kernel
theorem dX6_program_123 : decode cX6_program 123 = .ok (.iadd, 1) := by decide +kernel
theorem dX6_program_124 : decode cX6_program 124 = .ok (.iload 7, 2) := by decide +kernel
theorem dX6_program_126 : decode cX6_program 126 = .ok (.iadd, 1) := by decide +kernel
theorem dX6_program_127 : decode cX6_program 127 = .ok (.lload_n 2, 1) := by decide +kernel
theorem dX6_program_128 : decode cX6_program 128 = .ok (.bipush 56, 2) := by decide +kernel
theorem dX6_program_130 : decode cX6_program 130 = .ok (.bipush 8, 2) := by decide +kernel
theorem dX6_program_132 : decode cX6_program 132 = .ok (.iload 7, 2) := by decide +kernel
theorem dX6_program_134 : decode cX6_program 134 = .ok (.imul, 1) := by decide +kernel
theorem dX6_program_135 : decode cX6_program 135 = .ok (.isub, 1) := by decide +kernel
theorem dX6_program_136 : decode cX6_program 136 = .ok (.lshr, 1) := by decide +kernel
theorem dX6_program_137 : decode cX6_program 137 = .ok (.l2i, 1) := by decide +kernel
theorem dX6_program_138 : decode cX6_program 138 = .ok (.i2b, 1) := by decide +kernel
theorem dX6_program_139 : decode cX6_program 139 = .ok (.iastore, 1) := by decide +kernel
theorem dX6_program_140 : decode cX6_program 140 = .ok (.iinc 7 1, 3) := by decide +kernel
theorem dX6_program_143 : decode cX6_program 143 = .ok (.goto (-42), 3) := by decide +kernel
theorem dX6_program_146 : decode cX6_program 146 = .ok (.aload_n 0, 1) := by decide +kernel
theorem dX6_program_147 : decode cX6_program 147 = .ok (.getfield 8, 3) := by decide +kernel
theorem dX6_program_150 : decode cX6_program 150 = .ok (.sipush 340, 3) := by decide +kernel
theorem dX6_program_153 : decode cX6_program 153 = .ok (.iload_n 1, 1) := by decide +kernel
theorem dX6_program_154 : decode cX6_program 154 = .ok (.iadd, 1) := by decide +kernel
theorem dX6_program_155 : decode cX6_program 155 = .ok (.iload 5, 2) := by decide +kernel
theorem dX6_program_157 : decode cX6_program 157 = .ok (.iload 4, 2) := by decide +kernel
theorem dX6_program_159 : decode cX6_program 159 = .ok (.iadd, 1) := by decide +kernel
theorem dX6_program_160 : decode cX6_program 160 = .ok (.iastore, 1) := by decide +kernel
theorem dX6_program_161 : decode cX6_program 161 = .ok (.iload 5, 2) := by decide +kernel
theorem dX6_program_163 : decode cX6_program 163 = .ok (.iload 4, 2) := by decide +kernel
theorem dX6_program_165 : decode cX6_program 165 = .ok (.iadd, 1) := by decide +kernel
theorem dX6_program_166 : decode cX6_program 166 = .ok (.ireturn, 1) := by decide +kernel
theorem dX6_task_0 : decode cX6_task 0 = .ok (.iload_n 1, 1) := by decide +kernel
theorem dX6_task_1 : decode cX6_task 1 = .ok (.i2l, 1) := by decide +kernel
theorem dX6_task_2 : decode cX6_task 2 = .ok (.lconst 0, 1) := by decide +kernel
theorem dX6_task_3 : decode cX6_task 3 = .ok (.ldc2_w 131, 3) := by decide +kernel
theorem dX6_task_6 : decode cX6_task 6 = .ok (.invokestatic 32, 3) := by decide +kernel
theorem dX6_task_9 : decode cX6_task 9 = .ok (.ifCond .eq 31, 3) := by decide +kernel
theorem dX6_task_12 : decode cX6_task 12 = .ok (.iload_n 2, 1) := by decide +kernel
theorem dX6_task_13 : decode cX6_task 13 = .ok (.i2l, 1) := by decide +kernel
theorem dX6_task_14 : decode cX6_task 14 = .ok (.lconst 0, 1) := by decide +kernel
theorem dX6_task_15 : decode cX6_task 15 = .ok (.ldc2_w 125, 3) := by decide +kernel
theorem dX6_task_18 : decode cX6_task 18 = .ok (.invokestatic 32, 3) := by decide +kernel
theorem dX6_task_21 : decode cX6_task 21 = .ok (.ifCond .eq 19, 3) := by decide +kernel
theorem dX6_task_24 : decode cX6_task 24 = .ok (.iload_n 3, 1) := by decide +kernel
theorem dX6_task_25 : decode cX6_task 25 = .ok (.i2l, 1) := by decide +kernel
theorem dX6_task_26 : decode cX6_task 26 = .ok (.lconst 1, 1) := by decide +kernel
theorem dX6_task_27 : decode cX6_task 27 = .ok (.ldc2_w 156, 3) := by decide +kernel
theorem dX6_task_30 : decode cX6_task 30 = .ok (.invokestatic 32, 3) := by decide +kernel
theorem dX6_task_33 : decode cX6_task 33 = .ok (.ifCond .eq 7, 3) := by decide +kernel
theorem dX6_task_36 : decode cX6_task 36 = .ok (.iconst 1, 1) := by decide +kernel
theorem dX6_task_37 : decode cX6_task 37 = .ok (.goto 4, 3) := by decide +kernel
theorem dX6_task_40 : decode cX6_task 40 = .ok (.iconst 0, 1) := by decide +kernel
theorem dX6_task_41 : decode cX6_task 41 = .ok (.istore 4, 2) := by decide +kernel
theorem dX6_task_43 : decode cX6_task 43 = .ok (.aload_n 0, 1) := by decide +kernel
theorem dX6_task_44 : decode cX6_task 44 = .ok (.iload 4, 2) := by decide +kernel
theorem dX6_task_46 : decode cX6_task 46 = .ok (.ifCond .ne 7, 3) := by decide +kernel
theorem dX6_task_49 : decode cX6_task 49 = .ok (.iconst 1, 1) := by decide +kernel
theorem dX6_task_50 : decode cX6_task 50 = .ok (.goto 20, 3) := by decide +kernel
theorem dX6_task_53 : decode cX6_task 53 = .ok (.aload_n 0, 1) := by decide +kernel
theorem dX6_task_54 : decode cX6_task 54 = .ok (.getfield 8, 3) := by decide +kernel
theorem dX6_task_57 : decode cX6_task 57 = .ok (.iconst 1, 1) := by decide +kernel
theorem dX6_task_58 : decode cX6_task 58 = .ok (.iaload, 1) := by decide +kernel
theorem dX6_task_59 : decode cX6_task 59 = .ok (.sipush 200, 3) := by decide +kernel
theorem dX6_task_62 : decode cX6_task 62 = .ok (.if_icmp .ne 7, 3) := by decide +kernel
theorem dX6_task_65 : decode cX6_task 65 = .ok (.iconst 2, 1) := by decide +kernel
theorem dX6_task_66 : decode cX6_task 66 = .ok (.goto 4, 3) := by decide +kernel
theorem dX6_task_69 : decode cX6_task 69 = .ok (.iconst 0, 1) := by decide +kernel
theorem dX6_task_70 : decode cX6_task 70 = .ok (.invokevirtual 153, 3) := by decide +kernel
theorem dX6_task_73 : decode cX6_task 73 = .ok (.ifCond .eq 5, 3) := by decide +kernel
theorem dX6_task_76 : decode cX6_task 76 = .ok (.iconst (-1), 1) := by decide +kernel
theorem dX6_task_77 : decode cX6_task 77 = .ok (.ireturn, 1) := by decide +kernel
theorem dX6_task_78 : decode cX6_task 78 = .ok (.aload_n 0, 1) := by decide +kernel
theorem dX6_task_79 : decode cX6_task 79 = .ok (.iload_n 1, 1) := by decide +kernel
theorem dX6_task_80 : decode cX6_task 80 = .ok (.iload_n 2, 1) := by decide +kernel
theorem dX6_task_81 : decode cX6_task 81 = .ok (.iload_n 3, 1) := by decide +kernel
theorem dX6_task_82 : decode cX6_task 82 = .ok (.bipush 100, 2) := by decide +kernel
theorem dX6_task_84 : decode cX6_task 84 = .ok (.iconst 0, 1) := by decide +kernel
theorem dX6_task_85 : decode cX6_task 85 = .ok (.invokevirtual 127, 3) := by decide +kernel
theorem dX6_task_88 : decode cX6_task 88 = .ok (.ireturn, 1) := by decide +kernel
theorem dX6_isLiving_0 : decode cX6_isLiving 0 = .ok (.aload_n 0, 1) := by decide +kernel
theorem dX6_isLiving_1 : decode cX6_isLiving 1 = .ok (.iload_n 1, 1) := by decide +kernel
theorem dX6_isLiving_2 : decode cX6_isLiving 2 = .ok (.invokevirtual 158, 3) := by decide +kernel
theorem dX6_isLiving_5 : decode cX6_isLiving 5 = .ok (.ifCond .eq 18, 3) := by decide +kernel
theorem dX6_isLiving_8 : decode cX6_isLiving 8 = .ok (.aload_n 0, 1) := by decide +kernel
theorem dX6_isLiving_9 : decode cX6_isLiving 9 = .ok (.iload_n 1, 1) := by decide +kernel
theorem dX6_isLiving_10 : decode cX6_isLiving 10 = .ok (.bipush 6, 2) := by decide +kernel
theorem dX6_isLiving_12 : decode cX6_isLiving 12 = .ok (.invokevirtual 36, 3) := by decide +kernel
theorem dX6_isLiving_15 : decode cX6_isLiving 15 = .ok (.iconst 4, 1) := by decide +kernel
theorem dX6_isLiving_16 : decode cX6_isLiving 16 = .ok (.if_icmp .eq 7, 3) := by decide +kernel
theorem dX6_isLiving_19 : decode cX6_isLiving 19 = .ok (.iconst 1, 1) := by decide +kernel
theorem dX6_isLiving_20 : decode cX6_isLiving 20 = .ok (.goto 4, 3) := by decide +kernel
theorem dX6_isLiving_23 : decode cX6_isLiving 23 = .ok (.iconst 0, 1) := by decide +kernel
theorem dX6_isLiving_24 : decode cX6_isLiving 24 = .ok (.ireturn, 1) := by decide +kernel
theorem dX6_share_0 : decode cX6_share 0 = .ok (.aload_n 0, 1) := by decide +kernel
theorem dX6_share_1 : decode cX6_share 1 = .ok (.aload_n 0, 1) := by decide +kernel
theorem dX6_share_2 : decode cX6_share 2 = .ok (.iload_n 1, 1) := by decide +kernel
theorem dX6_share_3 : decode cX6_share 3 = .ok (.invokevirtual 161, 3) := by decide +kernel
theorem dX6_share_6 : decode cX6_share 6 = .ok (.ifCond .ne 7, 3) := by decide +kernel
theorem dX6_share_9 : decode cX6_share 9 = .ok (.iconst 3, 1) := by decide +kernel
theorem dX6_share_10 : decode cX6_share 10 = .ok (.goto 20, 3) := by decide +kernel
theorem dX6_share_13 : decode cX6_share 13 = .ok (.iload_n 2, 1) := by decide +kernel
theorem dX6_share_14 : decode cX6_share 14 = .ok (.i2l, 1) := by decide +kernel
theorem dX6_share_15 : decode cX6_share 15 = .ok (.lconst 1, 1) := by decide +kernel
theorem dX6_share_16 : decode cX6_share 16 = .ok (.ldc2_w 156, 3) := by decide +kernel
theorem dX6_share_19 : decode cX6_share 19 = .ok (.invokestatic 32, 3) := by decide +kernel
theorem dX6_share_22 : decode cX6_share 22 = .ok (.ifCond .ne 7, 3) := by decide +kernel
theorem dX6_share_25 : decode cX6_share 25 = .ok (.iconst 1, 1) := by decide +kernel
theorem dX6_share_26 : decode cX6_share 26 = .ok (.goto 4, 3) := by decide +kernel
theorem dX6_share_29 : decode cX6_share 29 = .ok (.iconst 0, 1) := by decide +kernel
theorem dX6_share_30 : decode cX6_share 30 = .ok (.invokevirtual 153, 3) := by decide +kernel
theorem dX6_share_33 : decode cX6_share 33 = .ok (.ifCond .eq 5, 3) := by decide +kernel
theorem dX6_share_36 : decode cX6_share 36 = .ok (.iconst (-1), 1) := by decide +kernel
theorem dX6_share_37 : decode cX6_share 37 = .ok (.ireturn, 1) := by decide +kernel
theorem dX6_share_38 : decode cX6_share 38 = .ok (.aload_n 0, 1) := by decide +kernel
theorem dX6_share_39 : decode cX6_share 39 = .ok (.iload_n 1, 1) := by decide +kernel
theorem dX6_share_40 : decode cX6_share 40 = .ok (.iconst 2, 1) := by decide +kernel
theorem dX6_share_41 : decode cX6_share 41 = .ok (.invokevirtual 36, 3) := by decide +kernel
theorem dX6_share_44 : decode cX6_share 44 = .ok (.istore_n 3, 1) := by decide +kernel
theorem dX6_share_45 : decode cX6_share 45 = .ok (.aload_n 0, 1) := by decide +kernel
theorem dX6_share_46 : decode cX6_share 46 = .ok (.iload_n 1, 1) := by decide +kernel
theorem dX6_share_47 : decode cX6_share 47 = .ok (.iconst 2, 1) := by decide +kernel
theorem dX6_share_48 : decode cX6_share 48 = .ok (.iload_n 2, 1) := by decide +kernel
theorem dX6_share_49 : decode cX6_share 49 = .ok (.invokevirtual 59, 3) := by decide +kernel
theorem dX6_share_52 : decode cX6_share 52 = .ok (.aload_n 0, 1) := by decide +kernel
theorem dX6_share_53 : decode cX6_share 53 = .ok (.iload_n 1, 1) := by decide +kernel
theorem dX6_share_54 : decode cX6_share 54 = .ok (.iconst 3, 1) := by decide +kernel
theorem dX6_share_55 : decode cX6_share 55 = .ok (.aload_n 0, 1) := by decide +kernel
theorem dX6_share_56 : decode cX6_share 56 = .ok (.iload_n 1, 1) := by decide +kernel
theorem dX6_share_57 : decode cX6_share 57 = .ok (.iconst 3, 1) := by decide +kernel
theorem dX6_share_58 : decode cX6_share 58 = .ok (.invokevirtual 36, 3) := by decide +kernel
theorem dX6_share_61 : decode cX6_share 61 = .ok (.iload_n 2, 1) := by decide +kernel
theorem dX6_share_62 : decode cX6_share 62 = .ok (.iconst 1, 1) := by decide +kernel
theorem dX6_share_63 : decode cX6_share 63 = .ok (.isub, 1) := by decide +kernel
theorem dX6_share_64 : decode cX6_share 64 = .ok (.invokestatic 164, 3) := by decide +kernel
theorem dX6_share_67 : decode cX6_share 67 = .ok (.invokevirtual 59, 3) := by decide +kernel
theorem dX6_share_70 : decode cX6_share 70 = .ok (.iload_n 3, 1) := by decide +kernel
theorem dX6_share_71 : decode cX6_share 71 = .ok (.ireturn, 1) := by decide +kernel
theorem dX6_deadline_0 : decode cX6_deadline 0 = .ok (.iload_n 2, 1) := by decide +kernel
theorem dX6_deadline_1 : decode cX6_deadline 1 = .ok (.i2l, 1) := by decide +kernel
theorem dX6_deadline_2 : decode cX6_deadline 2 = .ok (.lconst 1, 1) := by decide +kernel
theorem dX6_deadline_3 : decode cX6_deadline 3 = .ok (.ldc2_w 156, 3) := by decide +kernel
theorem dX6_deadline_6 : decode cX6_deadline 6 = .ok (.invokestatic 32, 3) := by decide +kernel
theorem dX6_deadline_9 : decode cX6_deadline 9 = .ok (.ifCond .eq 18, 3) := by decide +kernel
theorem dX6_deadline_12 : decode cX6_deadline 12 = .ok (.iload_n 3, 1) := by decide +kernel
theorem dX6_deadline_13 : decode cX6_deadline 13 = .ok (.i2l, 1) := by decide +kernel
theorem dX6_deadline_14 : decode cX6_deadline 14 = .ok (.lconst 0, 1) := by decide +kernel
theorem dX6_deadline_15 : decode cX6_deadline 15 = .ok (.iload_n 2, 1) := by decide +kernel
theorem dX6_deadline_16 : decode cX6_deadline 16 = .ok (.i2l, 1) := by decide +kernel
theorem dX6_deadline_17 : decode cX6_deadline 17 = .ok (.invokestatic 32, 3) := by decide +kernel
theorem dX6_deadline_20 : decode cX6_deadline 20 = .ok (.ifCond .eq 7, 3) := by decide +kernel
theorem dX6_deadline_23 : decode cX6_deadline 23 = .ok (.iconst 1, 1) := by decide +kernel
theorem dX6_deadline_24 : decode cX6_deadline 24 = .ok (.goto 4, 3) := by decide +kernel
theorem dX6_deadline_27 : decode cX6_deadline 27 = .ok (.iconst 0, 1) := by decide +kernel
theorem dX6_deadline_28 : decode cX6_deadline 28 = .ok (.istore 4, 2) := by decide +kernel
theorem dX6_deadline_30 : decode cX6_deadline 30 = .ok (.aload_n 0, 1) := by decide +kernel
theorem dX6_deadline_31 : decode cX6_deadline 31 = .ok (.aload_n 0, 1) := by decide +kernel
theorem dX6_deadline_32 : decode cX6_deadline 32 = .ok (.iload_n 1, 1) := by decide +kernel
theorem dX6_deadline_33 : decode cX6_deadline 33 = .ok (.invokevirtual 161, 3) := by decide +kernel
theorem dX6_deadline_36 : decode cX6_deadline 36 = .ok (.ifCond .ne 7, 3) := by decide +kernel
theorem dX6_deadline_39 : decode cX6_deadline 39 = .ok (.iconst 3, 1) := by decide +kernel
theorem dX6_deadline_40 : decode cX6_deadline 40 = .ok (.goto 25, 3) := by decide +kernel
theorem dX6_deadline_43 : decode cX6_deadline 43 = .ok (.aload_n 0, 1) := by decide +kernel
theorem dX6_deadline_44 : decode cX6_deadline 44 = .ok (.iload_n 1, 1) := by decide +kernel
theorem dX6_deadline_45 : decode cX6_deadline 45 = .ok (.invokevirtual 43, 3) := by decide +kernel
theorem dX6_deadline_48 : decode cX6_deadline 48 = .ok (.ifCond .ne 7, 3) := by decide +kernel
theorem dX6_deadline_51 : decode cX6_deadline 51 = .ok (.iconst 4, 1) := by decide +kernel
theorem dX6_deadline_52 : decode cX6_deadline 52 = .ok (.goto 13, 3) := by decide +kernel
theorem dX6_deadline_55 : decode cX6_deadline 55 = .ok (.iload 4, 2) := by decide +kernel
theorem dX6_deadline_57 : decode cX6_deadline 57 = .ok (.ifCond .ne 7, 3) := by decide +kernel
theorem dX6_deadline_60 : decode cX6_deadline 60 = .ok (.iconst 1, 1) := by decide +kernel
theorem dX6_deadline_61 : decode cX6_deadline 61 = .ok (.goto 4, 3) := by decide +kernel
theorem dX6_deadline_64 : decode cX6_deadline 64 = .ok (.iconst 0, 1) := by decide +kernel
theorem dX6_deadline_65 : decode cX6_deadline 65 = .ok (.invokevirtual 153, 3) := by decide +kernel
theorem dX6_deadline_68 : decode cX6_deadline 68 = .ok (.ifCond .eq 5, 3) := by decide +kernel
theorem dX6_deadline_71 : decode cX6_deadline 71 = .ok (.iconst 0, 1) := by decide +kernel
theorem dX6_deadline_72 : decode cX6_deadline 72 = .ok (.ireturn, 1) := by decide +kernel
theorem dX6_deadline_73 : decode cX6_deadline 73 = .ok (.aload_n 0, 1) := by decide +kernel
theorem dX6_deadline_74 : decode cX6_deadline 74 = .ok (.iload_n 1, 1) := by decide +kernel
theorem dX6_deadline_75 : decode cX6_deadline 75 = .ok (.bipush 10, 2) := by decide +kernel
theorem dX6_deadline_77 : decode cX6_deadline 77 = .ok (.iload_n 2, 1) := by decide +kernel
theorem dX6_deadline_78 : decode cX6_deadline 78 = .ok (.invokevirtual 59, 3) := by decide +kernel
theorem dX6_deadline_81 : decode cX6_deadline 81 = .ok (.aload_n 0, 1) := by decide +kernel
theorem dX6_deadline_82 : decode cX6_deadline 82 = .ok (.iload_n 1, 1) := by decide +kernel
theorem dX6_deadline_83 : decode cX6_deadline 83 = .ok (.bipush 11, 2) := by decide +kernel
theorem dX6_deadline_85 : decode cX6_deadline 85 = .ok (.iload_n 3, 1) := by decide +kernel
theorem dX6_deadline_86 : decode cX6_deadline 86 = .ok (.invokevirtual 59, 3) := by decide +kernel
theorem dX6_deadline_89 : decode cX6_deadline 89 = .ok (.aload_n 0, 1) := by decide +kernel
theorem dX6_deadline_90 : decode cX6_deadline 90 = .ok (.iload_n 1, 1) := by decide +kernel
theorem dX6_deadline_91 : decode cX6_deadline 91 = .ok (.bipush 12, 2) := by decide +kernel
theorem dX6_deadline_93 : decode cX6_deadline 93 = .ok (.aload_n 0, 1) := by decide +kernel
theorem dX6_deadline_94 : decode cX6_deadline 94 = .ok (.getfield 8, 3) := by decide +kernel
theorem dX6_deadline_97 : decode cX6_deadline 97 = .ok (.iconst 0, 1) := by decide +kernel
theorem dX6_deadline_98 : decode cX6_deadline 98 = .ok (.iaload, 1) := by decide +kernel
theorem dX6_deadline_99 : decode cX6_deadline 99 = .ok (.iload_n 2, 1) := by decide +kernel
theorem dX6_deadline_100 : decode cX6_deadline 100 = .ok (.iadd, 1) := by decide +kernel
theorem dX6_deadline_101 : decode cX6_deadline 101 = .ok (.invokevirtual 59, 3) := by decide +kernel
theorem dX6_deadline_104 : decode cX6_deadline 104 = .ok (.aload_n 0, 1) := by decide +kernel
theorem dX6_deadline_105 : decode cX6_deadline 105 = .ok (.iload_n 1, 1) := by decide +kernel
theorem dX6_deadline_106 : decode cX6_deadline 106 = .ok (.bipush 13, 2) := by decide +kernel
theorem dX6_deadline_108 : decode cX6_deadline 108 = .ok (.iload_n 3, 1) := by decide +kernel
theorem dX6_deadline_109 : decode cX6_deadline 109 = .ok (.invokevirtual 59, 3) := by decide +kernel
theorem dX6_deadline_112 : decode cX6_deadline 112 = .ok (.iconst 1, 1) := by decide +kernel
theorem dX6_deadline_113 : decode cX6_deadline 113 = .ok (.ireturn, 1) := by decide +kernel
theorem dX6_processors_0 : decode cX6_processors 0 = .ok (.aload_n 0, 1) := by decide +kernel
theorem dX6_processors_1 : decode cX6_processors 1 = .ok (.iload_n 1, 1) := by decide +kernel
theorem dX6_processors_2 : decode cX6_processors 2 = .ok (.i2l, 1) := by decide +kernel
theorem dX6_processors_3 : decode cX6_processors 3 = .ok (.lconst 1, 1) := by decide +kernel
theorem dX6_processors_4 : decode cX6_processors 4 = .ok (.ldc2_w 131, 3) := by decide +kernel
theorem dX6_processors_7 : decode cX6_processors 7 = .ok (.invokestatic 32, 3) := by decide +kernel
theorem dX6_processors_10 : decode cX6_processors 10 = .ok (.ifCond .eq 7, 3) := by decide +kernel
theorem dX6_processors_13 : decode cX6_processors 13 = .ok (.iconst 0, 1) := by decide +kernel
theorem dX6_processors_14 : decode cX6_processors 14 = .ok (.goto 4, 3) := by decide +kernel
theorem dX6_processors_17 : decode cX6_processors 17 = .ok (.iconst 1, 1) := by decide +kernel
theorem dX6_processors_18 : decode cX6_processors 18 = .ok (.invokevirtual 153, 3) := by decide +kernel
theorem dX6_processors_21 : decode cX6_processors 21 = .ok (.ifCond .eq 5, 3) := by decide +kernel
theorem dX6_processors_24 : decode cX6_processors 24 = .ok (.iconst (-1), 1) := by decide +kernel
theorem dX6_processors_25 : decode cX6_processors 25 = .ok (.ireturn, 1) := by decide +kernel
theorem dX6_processors_26 : decode cX6_processors 26 = .ok (.aload_n 0, 1) := by decide +kernel
theorem dX6_processors_27 : decode cX6_processors 27 = .ok (.getfield 8, 3) := by decide +kernel
theorem dX6_processors_30 : decode cX6_processors 30 = .ok (.iconst 2, 1) := by decide +kernel
theorem dX6_processors_31 : decode cX6_processors 31 = .ok (.iaload, 1) := by decide +kernel
theorem dX6_processors_32 : decode cX6_processors 32 = .ok (.istore_n 2, 1) := by decide +kernel
theorem dX6_processors_33 : decode cX6_processors 33 = .ok (.aload_n 0, 1) := by decide +kernel
theorem dX6_processors_34 : decode cX6_processors 34 = .ok (.getfield 8, 3) := by decide +kernel
theorem dX6_processors_37 : decode cX6_processors 37 = .ok (.iconst 2, 1) := by decide +kernel
theorem dX6_processors_38 : decode cX6_processors 38 = .ok (.iload_n 1, 1) := by decide +kernel
theorem dX6_processors_39 : decode cX6_processors 39 = .ok (.iastore, 1) := by decide +kernel
theorem dX6_processors_40 : decode cX6_processors 40 = .ok (.iload_n 2, 1) := by decide +kernel
theorem dX6_processors_41 : decode cX6_processors 41 = .ok (.ireturn, 1) := by decide +kernel
theorem dX6_lock_0 : decode cX6_lock 0 = .ok (.aload_n 0, 1) := by decide +kernel
theorem dX6_lock_1 : decode cX6_lock 1 = .ok (.iload_n 1, 1) := by decide +kernel
theorem dX6_lock_2 : decode cX6_lock 2 = .ok (.i2l, 1) := by decide +kernel
theorem dX6_lock_3 : decode cX6_lock 3 = .ok (.lconst 0, 1) := by decide +kernel
theorem dX6_lock_4 : decode cX6_lock 4 = .ok (.ldc2_w 118, 3) := by decide +kernel
theorem dX6_lock_7 : decode cX6_lock 7 = .ok (.invokestatic 32, 3) := by decide +kernel
theorem dX6_lock_10 : decode cX6_lock 10 = .ok (.ifCond .ne 7, 3) := by decide +kernel
theorem dX6_lock_13 : decode cX6_lock 13 = .ok (.iconst 1, 1) := by decide +kernel
theorem dX6_lock_14 : decode cX6_lock 14 = .ok (.goto 23, 3) := by decide +kernel
theorem dX6_lock_17 : decode cX6_lock 17 = .ok (.aload_n 0, 1) := by decide +kernel
theorem dX6_lock_18 : decode cX6_lock 18 = .ok (.getfield 8, 3) := by decide +kernel
theorem dX6_lock_21 : decode cX6_lock 21 = .ok (.sipush 240, 3) := by decide +kernel
theorem dX6_lock_24 : decode cX6_lock 24 = .ok (.iload_n 1, 1) := by decide +kernel
theorem dX6_lock_25 : decode cX6_lock 25 = .ok (.iadd, 1) := by decide +kernel
theorem dX6_lock_26 : decode cX6_lock 26 = .ok (.iaload, 1) := by decide +kernel
theorem dX6_lock_27 : decode cX6_lock 27 = .ok (.bipush (-2), 2) := by decide +kernel
theorem dX6_lock_29 : decode cX6_lock 29 = .ok (.if_icmp .eq 7, 3) := by decide +kernel
theorem dX6_lock_32 : decode cX6_lock 32 = .ok (.iconst 2, 1) := by decide +kernel
theorem dX6_lock_33 : decode cX6_lock 33 = .ok (.goto 4, 3) := by decide +kernel
theorem dX6_lock_36 : decode cX6_lock 36 = .ok (.iconst 0, 1) := by decide +kernel
theorem dX6_lock_37 : decode cX6_lock 37 = .ok (.invokevirtual 153, 3) := by decide +kernel
theorem dX6_lock_40 : decode cX6_lock 40 = .ok (.ifCond .eq 5, 3) := by decide +kernel
theorem dX6_lock_43 : decode cX6_lock 43 = .ok (.iconst 0, 1) := by decide +kernel
theorem dX6_lock_44 : decode cX6_lock 44 = .ok (.ireturn, 1) := by decide +kernel
theorem dX6_lock_45 : decode cX6_lock 45 = .ok (.aload_n 0, 1) := by decide +kernel
theorem dX6_lock_46 : decode cX6_lock 46 = .ok (.getfield 8, 3) := by decide +kernel
theorem dX6_lock_49 : decode cX6_lock 49 = .ok (.sipush 240, 3) := by decide +kernel
theorem dX6_lock_52 : decode cX6_lock 52 = .ok (.iload_n 1, 1) := by decide +kernel
theorem dX6_lock_53 : decode cX6_lock 53 = .ok (.iadd, 1) := by decide +kernel
theorem dX6_lock_54 : decode cX6_lock 54 = .ok (.iconst (-1), 1) := by decide +kernel
theorem dX6_lock_55 : decode cX6_lock 55 = .ok (.iastore, 1) := by decide +kernel
theorem dX6_lock_56 : decode cX6_lock 56 = .ok (.iconst 1, 1) := by decide +kernel
theorem dX6_lock_57 : decode cX6_lock 57 = .ok (.ireturn, 1) := by decide +kernel
theorem dX6_ring_0 : decode cX6_ring 0 = .ok (.aload_n 0, 1) := by decide +kernel
theorem dX6_ring_1 : decode cX6_ring 1 = .ok (.iload_n 1, 1) := by decide +kernel
theorem dX6_ring_2 : decode cX6_ring 2 = .ok (.i2l, 1) := by decide +kernel
theorem dX6_ring_3 : decode cX6_ring 3 = .ok (.lconst 0, 1) := by decide +kernel
theorem dX6_ring_4 : decode cX6_ring 4 = .ok (.ldc2_w 97, 3) := by decide +kernel
theorem dX6_ring_7 : decode cX6_ring 7 = .ok (.invokestatic 32, 3) := by decide +kernel
theorem dX6_ring_10 : decode cX6_ring 10 = .ok (.ifCond .eq 7, 3) := by decide +kernel
theorem dX6_ring_13 : decode cX6_ring 13 = .ok (.iconst 0, 1) := by decide +kernel
theorem dX6_ring_14 : decode cX6_ring 14 = .ok (.goto 4, 3) := by decide +kernel
theorem dX6_ring_17 : decode cX6_ring 17 = .ok (.iconst 1, 1) := by decide +kernel
theorem dX6_ring_18 : decode cX6_ring 18 = .ok (.invokevirtual 153, 3) := by decide +kernel
theorem dX6_ring_21 : decode cX6_ring 21 = .ok (.ifCond .eq 7, 3) := by decide +kernel
theorem dX6_ring_24 : decode cX6_ring 24 = .ok (.iconst (-1), 1) := by decide +kernel
theorem dX6_ring_25 : decode cX6_ring 25 = .ok (.goto 8, 3) := by decide +kernel
theorem dX6_ring_28 : decode cX6_ring 28 = .ok (.aload_n 0, 1) := by decide +kernel
theorem dX6_ring_29 : decode cX6_ring 29 = .ok (.iload_n 1, 1) := by decide +kernel
theorem dX6_ring_30 : decode cX6_ring 30 = .ok (.invokevirtual 103, 3) := by decide +kernel
theorem dX6_ring_33 : decode cX6_ring 33 = .ok (.ireturn, 1) := by decide +kernel
theorem dX6_run_0 : decode cX6_run 0 = .ok (.aload_n 0, 1) := by decide +kernel
theorem dX6_run_1 : decode cX6_run 1 = .ok (.iload_n 1, 1) := by decide +kernel
theorem dX6_run_2 : decode cX6_run 2 = .ok (.i2l, 1) := by decide +kernel
theorem dX6_run_3 : decode cX6_run 3 = .ok (.lconst 0, 1) := by decide +kernel
theorem dX6_run_4 : decode cX6_run 4 = .ok (.ldc2_w 156, 3) := by decide +kernel
theorem dX6_run_7 : decode cX6_run 7 = .ok (.invokestatic 32, 3) := by decide +kernel
theorem dX6_run_10 : decode cX6_run 10 = .ok (.ifCond .eq 7, 3) := by decide +kernel
theorem dX6_run_13 : decode cX6_run 13 = .ok (.iconst 0, 1) := by decide +kernel
theorem dX6_run_14 : decode cX6_run 14 = .ok (.goto 4, 3) := by decide +kernel
theorem dX6_run_17 : decode cX6_run 17 = .ok (.iconst 1, 1) := by decide +kernel
theorem dX6_run_18 : decode cX6_run 18 = .ok (.invokevirtual 153, 3) := by decide +kernel
theorem dX6_run_21 : decode cX6_run 21 = .ok (.ifCond .eq 5, 3) := by decide +kernel
theorem dX6_run_24 : decode cX6_run 24 = .ok (.iconst (-1), 1) := by decide +kernel
theorem dX6_run_25 : decode cX6_run 25 = .ok (.ireturn, 1) := by decide +kernel
theorem dX6_run_26 : decode cX6_run 26 = .ok (.iconst 0, 1) := by decide +kernel
theorem dX6_run_27 : decode cX6_run 27 = .ok (.istore_n 2, 1) := by decide +kernel
theorem dX6_run_28 : decode cX6_run 28 = .ok (.iload_n 2, 1) := by decide +kernel
theorem dX6_run_29 : decode cX6_run 29 = .ok (.iload_n 1, 1) := by decide +kernel
theorem dX6_run_30 : decode cX6_run 30 = .ok (.if_icmp .ge 27, 3) := by decide +kernel
theorem dX6_run_33 : decode cX6_run 33 = .ok (.sipush 8000, 3) := by decide +kernel
theorem dX6_run_36 : decode cX6_run 36 = .ok (.aload_n 0, 1) := by decide +kernel
theorem dX6_run_37 : decode cX6_run 37 = .ok (.getfield 8, 3) := by decide +kernel
theorem dX6_run_40 : decode cX6_run 40 = .ok (.iconst 3, 1) := by decide +kernel
theorem dX6_run_41 : decode cX6_run 41 = .ok (.iaload, 1) := by decide +kernel
theorem dX6_run_42 : decode cX6_run 42 = .ok (.isub, 1) := by decide +kernel
theorem dX6_run_43 : decode cX6_run 43 = .ok (.iconst 4, 1) := by decide +kernel
theorem dX6_run_44 : decode cX6_run 44 = .ok (.if_icmp .lt 13, 3) := by decide +kernel
theorem dX6_run_47 : decode cX6_run 47 = .ok (.aload_n 0, 1) := by decide +kernel
theorem dX6_run_48 : decode cX6_run 48 = .ok (.invokevirtual 167, 3) := by decide +kernel
theorem dX6_run_51 : decode cX6_run 51 = .ok (.iinc 2 1, 3) := by decide +kernel
theorem dX6_run_54 : decode cX6_run 54 = .ok (.goto (-26), 3) := by decide +kernel
theorem dX6_run_57 : decode cX6_run 57 = .ok (.iload_n 2, 1) := by decide +kernel
theorem dX6_run_58 : decode cX6_run 58 = .ok (.ireturn, 1) := by decide +kernel
theorem dX6_chosen_0 : decode cX6_chosen 0 = .ok (.iload_n 1, 1) := by decide +kernel
theorem dX6_chosen_1 : decode cX6_chosen 1 = .ok (.i2l, 1) := by decide +kernel
theorem dX6_chosen_2 : decode cX6_chosen 2 = .ok (.lconst 0, 1) := by decide +kernel
theorem dX6_chosen_3 : decode cX6_chosen 3 = .ok (.ldc2_w 112, 3) := by decide +kernel
theorem dX6_chosen_6 : decode cX6_chosen 6 = .ok (.invokestatic 32, 3) := by decide +kernel
theorem dX6_chosen_9 : decode cX6_chosen 9 = .ok (.ifCond .eq 15, 3) := by decide +kernel
theorem dX6_chosen_12 : decode cX6_chosen 12 = .ok (.aload_n 0, 1) := by decide +kernel
theorem dX6_chosen_13 : decode cX6_chosen 13 = .ok (.getfield 8, 3) := by decide +kernel
theorem dX6_chosen_16 : decode cX6_chosen 16 = .ok (.bipush 7, 2) := by decide +kernel
theorem dX6_chosen_18 : decode cX6_chosen 18 = .ok (.iload_n 1, 1) := by decide +kernel
theorem dX6_chosen_19 : decode cX6_chosen 19 = .ok (.iadd, 1) := by decide +kernel
theorem dX6_chosen_20 : decode cX6_chosen 20 = .ok (.iaload, 1) := by decide +kernel
theorem dX6_chosen_21 : decode cX6_chosen 21 = .ok (.goto 4, 3) := by decide +kernel
theorem dX6_chosen_24 : decode cX6_chosen 24 = .ok (.iconst (-1), 1) := by decide +kernel
theorem dX6_chosen_25 : decode cX6_chosen 25 = .ok (.ireturn, 1) := by decide +kernel
theorem dX6_about_0 : decode cX6_about 0 = .ok (.aload_n 0, 1) := by decide +kernel
theorem dX6_about_1 : decode cX6_about 1 = .ok (.iload_n 1, 1) := by decide +kernel
theorem dX6_about_2 : decode cX6_about 2 = .ok (.invokevirtual 158, 3) := by decide +kernel
theorem dX6_about_5 : decode cX6_about 5 = .ok (.ifCond .eq 15, 3) := by decide +kernel
theorem dX6_about_8 : decode cX6_about 8 = .ok (.iload_n 2, 1) := by decide +kernel
theorem dX6_about_9 : decode cX6_about 9 = .ok (.i2l, 1) := by decide +kernel
theorem dX6_about_10 : decode cX6_about 10 = .ok (.lconst 0, 1) := by decide +kernel
theorem dX6_about_11 : decode cX6_about 11 = .ok (.ldc2_w 170, 3) := by decide +kernel
theorem dX6_about_14 : decode cX6_about 14 = .ok (.invokestatic 32, 3) := by decide +kernel
theorem dX6_about_17 : decode cX6_about 17 = .ok (.ifCond .ne 5, 3) := by decide +kernel
theorem dX6_about_20 : decode cX6_about 20 = .ok (.iconst (-1), 1) := by decide +kernel
theorem dX6_about_21 : decode cX6_about 21 = .ok (.ireturn, 1) := by decide +kernel
theorem dX6_about_22 : decode cX6_about 22 = .ok (.iload_n 2, 1) := by decide +kernel
theorem dX6_about_23 : decode cX6_about 23 = .ok (.i2l, 1) := by decide +kernel
theorem dX6_about_24 : decode cX6_about 24 = .ok (.ldc2_w 172, 3) := by decide +kernel
theorem dX6_about_27 : decode cX6_about 27 = .ok (.ldc2_w 174, 3) := by decide +kernel
theorem dX6_about_30 : decode cX6_about 30 = .ok (.invokestatic 32, 3) := by decide +kernel
theorem dX6_about_33 : decode cX6_about 33 = .ok (.ifCond .eq 15, 3) := by decide +kernel
theorem dX6_about_36 : decode cX6_about 36 = .ok (.aload_n 0, 1) := by decide +kernel
theorem dX6_about_37 : decode cX6_about 37 = .ok (.iload_n 1, 1) := by decide +kernel
theorem dX6_about_38 : decode cX6_about 38 = .ok (.invokevirtual 43, 3) := by decide +kernel
theorem dX6_about_41 : decode cX6_about 41 = .ok (.ifCond .ne 7, 3) := by decide +kernel
theorem dX6_about_44 : decode cX6_about 44 = .ok (.iconst (-1), 1) := by decide +kernel
theorem dX6_about_45 : decode cX6_about 45 = .ok (.goto 9, 3) := by decide +kernel
theorem dX6_about_48 : decode cX6_about 48 = .ok (.aload_n 0, 1) := by decide +kernel
theorem dX6_about_49 : decode cX6_about 49 = .ok (.iload_n 1, 1) := by decide +kernel
theorem dX6_about_50 : decode cX6_about 50 = .ok (.iload_n 2, 1) := by decide +kernel
theorem dX6_about_51 : decode cX6_about 51 = .ok (.invokevirtual 36, 3) := by decide +kernel
theorem dX6_about_54 : decode cX6_about 54 = .ok (.ireturn, 1) := by decide +kernel
theorem dX6_virtual_0 : decode cX6_virtual 0 = .ok (.aload_n 0, 1) := by decide +kernel
theorem dX6_virtual_1 : decode cX6_virtual 1 = .ok (.iload_n 1, 1) := by decide +kernel
theorem dX6_virtual_2 : decode cX6_virtual 2 = .ok (.invokevirtual 158, 3) := by decide +kernel
theorem dX6_virtual_5 : decode cX6_virtual 5 = .ok (.ifCond .eq 12, 3) := by decide +kernel
theorem dX6_virtual_8 : decode cX6_virtual 8 = .ok (.aload_n 0, 1) := by decide +kernel
theorem dX6_virtual_9 : decode cX6_virtual 9 = .ok (.getfield 14, 3) := by decide +kernel
theorem dX6_virtual_12 : decode cX6_virtual 12 = .ok (.iload_n 1, 1) := by decide +kernel
theorem dX6_virtual_13 : decode cX6_virtual 13 = .ok (.laload, 1) := by decide +kernel
theorem dX6_virtual_14 : decode cX6_virtual 14 = .ok (.goto 6, 3) := by decide +kernel
theorem dX6_virtual_17 : decode cX6_virtual 17 = .ok (.ldc2_w 176, 3) := by decide +kernel
theorem dX6_virtual_20 : decode cX6_virtual 20 = .ok (.lreturn, 1) := by decide +kernel
theorem dX6_small_0 : decode cX6_small 0 = .ok (.aload_n 0, 1) := by decide +kernel
theorem dX6_small_1 : decode cX6_small 1 = .ok (.iload_n 1, 1) := by decide +kernel
theorem dX6_small_2 : decode cX6_small 2 = .ok (.invokevirtual 158, 3) := by decide +kernel
theorem dX6_small_5 : decode cX6_small 5 = .ok (.ifCond .eq 41, 3) := by decide +kernel
theorem dX6_small_8 : decode cX6_small 8 = .ok (.iload_n 2, 1) := by decide +kernel
theorem dX6_small_9 : decode cX6_small 9 = .ok (.i2l, 1) := by decide +kernel
theorem dX6_small_10 : decode cX6_small 10 = .ok (.lconst 0, 1) := by decide +kernel
theorem dX6_small_11 : decode cX6_small 11 = .ok (.aload_n 0, 1) := by decide +kernel
theorem dX6_small_12 : decode cX6_small 12 = .ok (.iload_n 1, 1) := by decide +kernel
theorem dX6_small_13 : decode cX6_small 13 = .ok (.bipush 14, 2) := by decide +kernel
theorem dX6_small_15 : decode cX6_small 15 = .ok (.invokevirtual 36, 3) := by decide +kernel
theorem dX6_small_18 : decode cX6_small 18 = .ok (.iconst 1, 1) := by decide +kernel
theorem dX6_small_19 : decode cX6_small 19 = .ok (.isub, 1) := by decide +kernel
theorem dX6_small_20 : decode cX6_small 20 = .ok (.i2l, 1) := by decide +kernel
theorem dX6_small_21 : decode cX6_small 21 = .ok (.invokestatic 32, 3) := by decide +kernel
theorem dX6_small_24 : decode cX6_small 24 = .ok (.ifCond .eq 22, 3) := by decide +kernel
theorem dX6_small_27 : decode cX6_small 27 = .ok (.aload_n 0, 1) := by decide +kernel
theorem dX6_small_28 : decode cX6_small 28 = .ok (.getfield 8, 3) := by decide +kernel
theorem dX6_small_31 : decode cX6_small 31 = .ok (.sipush 4400, 3) := by decide +kernel
theorem dX6_small_34 : decode cX6_small 34 = .ok (.sipush 128, 3) := by decide +kernel
theorem dX6_small_37 : decode cX6_small 37 = .ok (.iload_n 1, 1) := by decide +kernel
theorem dX6_small_38 : decode cX6_small 38 = .ok (.imul, 1) := by decide +kernel
theorem dX6_small_39 : decode cX6_small 39 = .ok (.iadd, 1) := by decide +kernel
theorem dX6_small_40 : decode cX6_small 40 = .ok (.iload_n 2, 1) := by decide +kernel
theorem dX6_small_41 : decode cX6_small 41 = .ok (.iadd, 1) := by decide +kernel
theorem dX6_small_42 : decode cX6_small 42 = .ok (.iaload, 1) := by decide +kernel
theorem dX6_small_43 : decode cX6_small 43 = .ok (.goto 4, 3) := by decide +kernel
theorem dX6_small_46 : decode cX6_small 46 = .ok (.iconst 0, 1) := by decide +kernel
theorem dX6_small_47 : decode cX6_small 47 = .ok (.ireturn, 1) := by decide +kernel
theorem dX6_standing_0 : decode cX6_standing 0 = .ok (.aload_n 0, 1) := by decide +kernel
theorem dX6_standing_1 : decode cX6_standing 1 = .ok (.iload_n 1, 1) := by decide +kernel
theorem dX6_standing_2 : decode cX6_standing 2 = .ok (.invokevirtual 161, 3) := by decide +kernel
theorem dX6_standing_5 : decode cX6_standing 5 = .ok (.ifCond .eq 15, 3) := by decide +kernel
theorem dX6_standing_8 : decode cX6_standing 8 = .ok (.iload_n 2, 1) := by decide +kernel
theorem dX6_standing_9 : decode cX6_standing 9 = .ok (.i2l, 1) := by decide +kernel
theorem dX6_standing_10 : decode cX6_standing 10 = .ok (.lconst 0, 1) := by decide +kernel
theorem dX6_standing_11 : decode cX6_standing 11 = .ok (.ldc2_w 178, 3) := by decide +kernel
theorem dX6_standing_14 : decode cX6_standing 14 = .ok (.invokestatic 32, 3) := by decide +kernel
theorem dX6_standing_17 : decode cX6_standing 17 = .ok (.ifCond .ne 7, 3) := by decide +kernel
theorem dX6_standing_20 : decode cX6_standing 20 = .ok (.ldc2_w 176, 3) := by decide +kernel
theorem dX6_standing_23 : decode cX6_standing 23 = .ok (.lreturn, 1) := by decide +kernel
theorem dX6_standing_24 : decode cX6_standing 24 = .ok (.aload_n 0, 1) := by decide +kernel
theorem dX6_standing_25 : decode cX6_standing 25 = .ok (.iload_n 1, 1) := by decide +kernel
theorem dX6_standing_26 : decode cX6_standing 26 = .ok (.invokevirtual 67, 3) := by decide +kernel
theorem dX6_standing_29 : decode cX6_standing 29 = .ok (.istore_n 3, 1) := by decide +kernel
theorem dX6_standing_30 : decode cX6_standing 30 = .ok (.iload_n 2, 1) := by decide +kernel
theorem dX6_standing_31 : decode cX6_standing 31 = .ok (.ifCond .ne 12, 3) := by decide +kernel
theorem dX6_standing_34 : decode cX6_standing 34 = .ok (.aload_n 0, 1) := by decide +kernel
theorem dX6_standing_35 : decode cX6_standing 35 = .ok (.iload_n 3, 1) := by decide +kernel
theorem dX6_standing_36 : decode cX6_standing 36 = .ok (.invokevirtual 47, 3) := by decide +kernel
theorem dX6_standing_39 : decode cX6_standing 39 = .ok (.i2l, 1) := by decide +kernel
theorem dX6_standing_40 : decode cX6_standing 40 = .ok (.goto 18, 3) := by decide +kernel
theorem dX6_standing_43 : decode cX6_standing 43 = .ok (.iload_n 2, 1) := by decide +kernel
theorem dX6_standing_44 : decode cX6_standing 44 = .ok (.iconst 1, 1) := by decide +kernel
theorem dX6_standing_45 : decode cX6_standing 45 = .ok (.if_icmp .ne 11, 3) := by decide +kernel
theorem dX6_standing_48 : decode cX6_standing 48 = .ok (.aload_n 0, 1) := by decide +kernel
theorem dX6_standing_49 : decode cX6_standing 49 = .ok (.iload_n 3, 1) := by decide +kernel
theorem dX6_standing_50 : decode cX6_standing 50 = .ok (.invokevirtual 51, 3) := by decide +kernel
theorem dX6_standing_53 : decode cX6_standing 53 = .ok (.goto 5, 3) := by decide +kernel
theorem dX6_standing_56 : decode cX6_standing 56 = .ok (.iload_n 3, 1) := by decide +kernel
theorem dX6_standing_57 : decode cX6_standing 57 = .ok (.i2l, 1) := by decide +kernel
theorem dX6_standing_58 : decode cX6_standing 58 = .ok (.lreturn, 1) := by decide +kernel
theorem dX6_holder_0 : decode cX6_holder 0 = .ok (.iload_n 1, 1) := by decide +kernel
theorem dX6_holder_1 : decode cX6_holder 1 = .ok (.i2l, 1) := by decide +kernel
theorem dX6_holder_2 : decode cX6_holder 2 = .ok (.lconst 0, 1) := by decide +kernel
theorem dX6_holder_3 : decode cX6_holder 3 = .ok (.ldc2_w 118, 3) := by decide +kernel
theorem dX6_holder_6 : decode cX6_holder 6 = .ok (.invokestatic 32, 3) := by decide +kernel
theorem dX6_holder_9 : decode cX6_holder 9 = .ok (.ifCond .eq 16, 3) := by decide +kernel
theorem dX6_holder_12 : decode cX6_holder 12 = .ok (.aload_n 0, 1) := by decide +kernel
theorem dX6_holder_13 : decode cX6_holder 13 = .ok (.getfield 8, 3) := by decide +kernel
theorem dX6_holder_16 : decode cX6_holder 16 = .ok (.sipush 240, 3) := by decide +kernel
theorem dX6_holder_19 : decode cX6_holder 19 = .ok (.iload_n 1, 1) := by decide +kernel
theorem dX6_holder_20 : decode cX6_holder 20 = .ok (.iadd, 1) := by decide +kernel
theorem dX6_holder_21 : decode cX6_holder 21 = .ok (.iaload, 1) := by decide +kernel
theorem dX6_holder_22 : decode cX6_holder 22 = .ok (.goto 5, 3) := by decide +kernel
theorem dX6_holder_25 : decode cX6_holder 25 = .ok (.bipush (-2), 2) := by decide +kernel
theorem dX6_holder_27 : decode cX6_holder 27 = .ok (.ireturn, 1) := by decide +kernel
theorem dX6_ringed_0 : decode cX6_ringed 0 = .ok (.iload_n 1, 1) := by decide +kernel
theorem dX6_ringed_1 : decode cX6_ringed 1 = .ok (.i2l, 1) := by decide +kernel
theorem dX6_ringed_2 : decode cX6_ringed 2 = .ok (.lconst 0, 1) := by decide +kernel
theorem dX6_ringed_3 : decode cX6_ringed 3 = .ok (.aload_n 0, 1) := by decide +kernel
theorem dX6_ringed_4 : decode cX6_ringed 4 = .ok (.getfield 8, 3) := by decide +kernel
theorem dX6_ringed_7 : decode cX6_ringed 7 = .ok (.iconst 5, 1) := by decide +kernel
theorem dX6_ringed_8 : decode cX6_ringed 8 = .ok (.iaload, 1) := by decide +kernel
theorem dX6_ringed_9 : decode cX6_ringed 9 = .ok (.iconst 1, 1) := by decide +kernel
theorem dX6_ringed_10 : decode cX6_ringed 10 = .ok (.isub, 1) := by decide +kernel
theorem dX6_ringed_11 : decode cX6_ringed 11 = .ok (.i2l, 1) := by decide +kernel
theorem dX6_ringed_12 : decode cX6_ringed 12 = .ok (.invokestatic 32, 3) := by decide +kernel
theorem dX6_ringed_15 : decode cX6_ringed 15 = .ok (.ifCond .eq 15, 3) := by decide +kernel
theorem dX6_ringed_18 : decode cX6_ringed 18 = .ok (.aload_n 0, 1) := by decide +kernel
theorem dX6_ringed_19 : decode cX6_ringed 19 = .ok (.getfield 8, 3) := by decide +kernel
theorem dX6_ringed_22 : decode cX6_ringed 22 = .ok (.bipush 16, 2) := by decide +kernel
theorem dX6_ringed_24 : decode cX6_ringed 24 = .ok (.iload_n 1, 1) := by decide +kernel
theorem dX6_ringed_25 : decode cX6_ringed 25 = .ok (.iadd, 1) := by decide +kernel
theorem dX6_ringed_26 : decode cX6_ringed 26 = .ok (.iaload, 1) := by decide +kernel
theorem dX6_ringed_27 : decode cX6_ringed 27 = .ok (.goto 4, 3) := by decide +kernel
theorem dX6_ringed_30 : decode cX6_ringed 30 = .ok (.iconst (-1), 1) := by decide +kernel
theorem dX6_ringed_31 : decode cX6_ringed 31 = .ok (.ireturn, 1) := by decide +kernel
theorem dX6_isRow_0 : decode cX6_isRow 0 = .ok (.iload_n 1, 1) := by decide +kernel
theorem dX6_isRow_1 : decode cX6_isRow 1 = .ok (.i2l, 1) := by decide +kernel
theorem dX6_isRow_2 : decode cX6_isRow 2 = .ok (.lconst 0, 1) := by decide +kernel
theorem dX6_isRow_3 : decode cX6_isRow 3 = .ok (.aload_n 0, 1) := by decide +kernel
theorem dX6_isRow_4 : decode cX6_isRow 4 = .ok (.getfield 8, 3) := by decide +kernel
theorem dX6_isRow_7 : decode cX6_isRow 7 = .ok (.iconst 3, 1) := by decide +kernel
theorem dX6_isRow_8 : decode cX6_isRow 8 = .ok (.iaload, 1) := by decide +kernel
theorem dX6_isRow_9 : decode cX6_isRow 9 = .ok (.iconst 1, 1) := by decide +kernel
theorem dX6_isRow_10 : decode cX6_isRow 10 = .ok (.isub, 1) := by decide +kernel
theorem dX6_isRow_11 : decode cX6_isRow 11 = .ok (.i2l, 1) := by decide +kernel
theorem dX6_isRow_12 : decode cX6_isRow 12 = .ok (.invokestatic 32, 3) := by decide +kernel
theorem dX6_isRow_15 : decode cX6_isRow 15 = .ok (.ifCond .eq 19, 3) := by decide +kernel
theorem dX6_isRow_18 : decode cX6_isRow 18 = .ok (.iload_n 2, 1) := by decide +kernel
theorem dX6_isRow_19 : decode cX6_isRow 19 = .ok (.i2l, 1) := by decide +kernel
theorem dX6_isRow_20 : decode cX6_isRow 20 = .ok (.lconst 0, 1) := by decide +kernel
theorem dX6_isRow_21 : decode cX6_isRow 21 = .ok (.ldc2_w 131, 3) := by decide +kernel
theorem dX6_isRow_24 : decode cX6_isRow 24 = .ok (.invokestatic 32, 3) := by decide +kernel
theorem dX6_isRow_27 : decode cX6_isRow 27 = .ok (.ifCond .eq 7, 3) := by decide +kernel
theorem dX6_isRow_30 : decode cX6_isRow 30 = .ok (.iconst 1, 1) := by decide +kernel
theorem dX6_isRow_31 : decode cX6_isRow 31 = .ok (.goto 4, 3) := by decide +kernel
theorem dX6_isRow_34 : decode cX6_isRow 34 = .ok (.iconst 0, 1) := by decide +kernel
theorem dX6_isRow_35 : decode cX6_isRow 35 = .ok (.ireturn, 1) := by decide +kernel
theorem dX6_row_0 : decode cX6_row 0 = .ok (.aload_n 0, 1) := by decide +kernel
theorem dX6_row_1 : decode cX6_row 1 = .ok (.iload_n 1, 1) := by decide +kernel
theorem dX6_row_2 : decode cX6_row 2 = .ok (.iload_n 2, 1) := by decide +kernel
theorem dX6_row_3 : decode cX6_row 3 = .ok (.invokevirtual 180, 3) := by decide +kernel
theorem dX6_row_6 : decode cX6_row 6 = .ok (.ifCond .eq 19, 3) := by decide +kernel
theorem dX6_row_9 : decode cX6_row 9 = .ok (.aload_n 0, 1) := by decide +kernel
theorem dX6_row_10 : decode cX6_row 10 = .ok (.getfield 8, 3) := by decide +kernel
theorem dX6_row_13 : decode cX6_row 13 = .ok (.ldc 140, 2) := by decide +kernel
theorem dX6_row_15 : decode cX6_row 15 = .ok (.iconst 5, 1) := by decide +kernel
theorem dX6_row_16 : decode cX6_row 16 = .ok (.iload_n 1, 1) := by decide +kernel
theorem dX6_row_17 : decode cX6_row 17 = .ok (.imul, 1) := by decide +kernel
theorem dX6_row_18 : decode cX6_row 18 = .ok (.iadd, 1) := by decide +kernel
theorem dX6_row_19 : decode cX6_row 19 = .ok (.iload_n 2, 1) := by decide +kernel
theorem dX6_row_20 : decode cX6_row 20 = .ok (.iadd, 1) := by decide +kernel
theorem dX6_row_21 : decode cX6_row 21 = .ok (.iaload, 1) := by decide +kernel
theorem dX6_row_22 : decode cX6_row 22 = .ok (.goto 4, 3) := by decide +kernel
theorem dX6_row_25 : decode cX6_row 25 = .ok (.iconst (-1), 1) := by decide +kernel
theorem dX6_row_26 : decode cX6_row 26 = .ok (.ireturn, 1) := by decide +kernel
theorem dX6_forge_0 : decode cX6_forge 0 = .ok (.aload_n 0, 1) := by decide +kernel
theorem dX6_forge_1 : decode cX6_forge 1 = .ok (.aload_n 0, 1) := by decide +kernel
theorem dX6_forge_2 : decode cX6_forge 2 = .ok (.iload_n 1, 1) := by decide +kernel
theorem dX6_forge_3 : decode cX6_forge 3 = .ok (.iload_n 2, 1) := by decide +kernel
theorem dX6_forge_4 : decode cX6_forge 4 = .ok (.invokevirtual 180, 3) := by decide +kernel
theorem dX6_forge_7 : decode cX6_forge 7 = .ok (.ifCond .eq 7, 3) := by decide +kernel
theorem dX6_forge_10 : decode cX6_forge 10 = .ok (.iconst 0, 1) := by decide +kernel
theorem dX6_forge_11 : decode cX6_forge 11 = .ok (.goto 4, 3) := by decide +kernel
theorem dX6_forge_14 : decode cX6_forge 14 = .ok (.iconst 1, 1) := by decide +kernel
theorem dX6_forge_15 : decode cX6_forge 15 = .ok (.putfield 40, 3) := by decide +kernel
theorem dX6_forge_18 : decode cX6_forge 18 = .ok (.aload_n 0, 1) := by decide +kernel
theorem dX6_forge_19 : decode cX6_forge 19 = .ok (.getfield 40, 3) := by decide +kernel
theorem dX6_forge_22 : decode cX6_forge 22 = .ok (.ifCond .le 5, 3) := by decide +kernel
theorem dX6_forge_25 : decode cX6_forge 25 = .ok (.iconst 0, 1) := by decide +kernel
theorem dX6_forge_26 : decode cX6_forge 26 = .ok (.ireturn, 1) := by decide +kernel
theorem dX6_forge_27 : decode cX6_forge 27 = .ok (.aload_n 0, 1) := by decide +kernel
theorem dX6_forge_28 : decode cX6_forge 28 = .ok (.getfield 8, 3) := by decide +kernel
theorem dX6_forge_31 : decode cX6_forge 31 = .ok (.ldc 140, 2) := by decide +kernel
theorem dX6_forge_33 : decode cX6_forge 33 = .ok (.iconst 5, 1) := by decide +kernel
theorem dX6_forge_34 : decode cX6_forge 34 = .ok (.iload_n 1, 1) := by decide +kernel
theorem dX6_forge_35 : decode cX6_forge 35 = .ok (.imul, 1) := by decide +kernel
theorem dX6_forge_36 : decode cX6_forge 36 = .ok (.iadd, 1) := by decide +kernel
theorem dX6_forge_37 : decode cX6_forge 37 = .ok (.iload_n 2, 1) := by decide +kernel
theorem dX6_forge_38 : decode cX6_forge 38 = .ok (.iadd, 1) := by decide +kernel
theorem dX6_forge_39 : decode cX6_forge 39 = .ok (.dup2, 1) := by decide +kernel
theorem dX6_forge_40 : decode cX6_forge 40 = .ok (.iaload, 1) := by decide +kernel
theorem dX6_forge_41 : decode cX6_forge 41 = .ok (.iload_n 3, 1) := by decide +kernel
theorem dX6_forge_42 : decode cX6_forge 42 = .ok (.iadd, 1) := by decide +kernel
theorem dX6_forge_43 : decode cX6_forge 43 = .ok (.iastore, 1) := by decide +kernel
theorem dX6_forge_44 : decode cX6_forge 44 = .ok (.iconst 1, 1) := by decide +kernel
theorem dX6_forge_45 : decode cX6_forge 45 = .ok (.ireturn, 1) := by decide +kernel
theorem dX6_check_0 : decode cX6_check 0 = .ok (.iconst 0, 1) := by decide +kernel
theorem dX6_check_1 : decode cX6_check 1 = .ok (.istore_n 1, 1) := by decide +kernel
theorem dX6_check_2 : decode cX6_check 2 = .ok (.iload_n 1, 1) := by decide +kernel
theorem dX6_check_3 : decode cX6_check 3 = .ok (.iconst 5, 1) := by decide +kernel
theorem dX6_check_4 : decode cX6_check 4 = .ok (.aload_n 0, 1) := by decide +kernel
theorem dX6_check_5 : decode cX6_check 5 = .ok (.getfield 8, 3) := by decide +kernel
theorem dX6_check_8 : decode cX6_check 8 = .ok (.iconst 3, 1) := by decide +kernel
theorem dX6_check_9 : decode cX6_check 9 = .ok (.iaload, 1) := by decide +kernel
theorem dX6_check_10 : decode cX6_check 10 = .ok (.imul, 1) := by decide +kernel
theorem dX6_check_11 : decode cX6_check 11 = .ok (.if_icmp .ge 54, 3) := by decide +kernel
theorem dX6_check_14 : decode cX6_check 14 = .ok (.aload_n 0, 1) := by decide +kernel
theorem dX6_check_15 : decode cX6_check 15 = .ok (.getfield 8, 3) := by decide +kernel
theorem dX6_check_18 : decode cX6_check 18 = .ok (.ldc 140, 2) := by decide +kernel
theorem dX6_check_20 : decode cX6_check 20 = .ok (.iload_n 1, 1) := by decide +kernel
theorem dX6_check_21 : decode cX6_check 21 = .ok (.iadd, 1) := by decide +kernel
theorem dX6_check_22 : decode cX6_check 22 = .ok (.iaload, 1) := by decide +kernel
theorem dX6_check_23 : decode cX6_check 23 = .ok (.aload_n 0, 1) := by decide +kernel
theorem dX6_check_24 : decode cX6_check 24 = .ok (.getfield 8, 3) := by decide +kernel
theorem dX6_check_27 : decode cX6_check 27 = .ok (.ldc 141, 2) := by decide +kernel
theorem dX6_check_29 : decode cX6_check 29 = .ok (.iload_n 1, 1) := by decide +kernel
theorem dX6_check_30 : decode cX6_check 30 = .ok (.iadd, 1) := by decide +kernel
theorem dX6_check_31 : decode cX6_check 31 = .ok (.iaload, 1) := by decide +kernel
theorem dX6_check_32 : decode cX6_check 32 = .ok (.if_icmp .ne 6, 3) := by decide +kernel
theorem dX6_check_35 : decode cX6_check 35 = .ok (.goto 24, 3) := by decide +kernel
theorem dX6_check_38 : decode cX6_check 38 = .ok (.aload_n 0, 1) := by decide +kernel
theorem dX6_check_39 : decode cX6_check 39 = .ok (.aload_n 0, 1) := by decide +kernel
theorem dX6_check_40 : decode cX6_check 40 = .ok (.getfield 8, 3) := by decide +kernel
theorem dX6_check_43 : decode cX6_check 43 = .ok (.ldc 141, 2) := by decide +kernel
theorem dX6_check_45 : decode cX6_check 45 = .ok (.iload_n 1, 1) := by decide +kernel
theorem dX6_check_46 : decode cX6_check 46 = .ok (.iconst 5, 1) := by decide +kernel
theorem dX6_check_47 : decode cX6_check 47 = .ok (.idiv, 1) := by decide +kernel
theorem dX6_check_48 : decode cX6_check 48 = .ok (.iconst 5, 1) := by decide +kernel
theorem dX6_check_49 : decode cX6_check 49 = .ok (.imul, 1) := by decide +kernel
theorem dX6_check_50 : decode cX6_check 50 = .ok (.iadd, 1) := by decide +kernel
theorem dX6_check_51 : decode cX6_check 51 = .ok (.iaload, 1) := by decide +kernel
theorem dX6_check_52 : decode cX6_check 52 = .ok (.putfield 24, 3) := by decide +kernel
theorem dX6_check_55 : decode cX6_check 55 = .ok (.iload_n 1, 1) := by decide +kernel
theorem dX6_check_56 : decode cX6_check 56 = .ok (.iconst 5, 1) := by decide +kernel
theorem dX6_check_57 : decode cX6_check 57 = .ok (.idiv, 1) := by decide +kernel
theorem dX6_check_58 : decode cX6_check 58 = .ok (.ireturn, 1) := by decide +kernel
theorem dX6_check_59 : decode cX6_check 59 = .ok (.iinc 1 1, 3) := by decide +kernel
theorem dX6_check_62 : decode cX6_check 62 = .ok (.goto (-60), 3) := by decide +kernel
theorem dX6_check_65 : decode cX6_check 65 = .ok (.aload_n 0, 1) := by decide +kernel
theorem dX6_check_66 : decode cX6_check 66 = .ok (.aload_n 0, 1) := by decide +kernel
theorem dX6_check_67 : decode cX6_check 67 = .ok (.getfield 8, 3) := by decide +kernel
theorem dX6_check_70 : decode cX6_check 70 = .ok (.iconst 0, 1) := by decide +kernel
theorem dX6_check_71 : decode cX6_check 71 = .ok (.iaload, 1) := by decide +kernel
theorem dX6_check_72 : decode cX6_check 72 = .ok (.putfield 24, 3) := by decide +kernel
theorem dX6_check_75 : decode cX6_check 75 = .ok (.iconst (-1), 1) := by decide +kernel
theorem dX6_check_76 : decode cX6_check 76 = .ok (.ireturn, 1) := by decide +kernel
theorem dX6_checkedTo_0 : decode cX6_checkedTo 0 = .ok (.aload_n 0, 1) := by decide +kernel
theorem dX6_checkedTo_1 : decode cX6_checkedTo 1 = .ok (.getfield 24, 3) := by decide +kernel
theorem dX6_checkedTo_4 : decode cX6_checkedTo 4 = .ok (.ireturn, 1) := by decide +kernel
theorem dX6_payments_0 : decode cX6_payments 0 = .ok (.lload_n 2, 1) := by decide +kernel
theorem dX6_payments_1 : decode cX6_payments 1 = .ok (.aload_n 0, 1) := by decide +kernel
theorem dX6_payments_2 : decode cX6_payments 2 = .ok (.getfield 14, 3) := by decide +kernel
theorem dX6_payments_5 : decode cX6_payments 5 = .ok (.iload_n 1, 1) := by decide +kernel
theorem dX6_payments_6 : decode cX6_payments 6 = .ok (.laload, 1) := by decide +kernel
theorem dX6_payments_7 : decode cX6_payments 7 = .ok (.lsub, 1) := by decide +kernel
theorem dX6_payments_8 : decode cX6_payments 8 = .ok (.iload_n 1, 1) := by decide +kernel
theorem dX6_payments_9 : decode cX6_payments 9 = .ok (.iload 4, 2) := by decide +kernel
theorem dX6_payments_11 : decode cX6_payments 11 = .ok (.if_icmp .le 7, 3) := by decide +kernel
theorem dX6_payments_14 : decode cX6_payments 14 = .ok (.iconst 0, 1) := by decide +kernel
theorem dX6_payments_15 : decode cX6_payments 15 = .ok (.goto 4, 3) := by decide +kernel
theorem dX6_payments_18 : decode cX6_payments 18 = .ok (.iconst 1, 1) := by decide +kernel
theorem dX6_payments_19 : decode cX6_payments 19 = .ok (.i2l, 1) := by decide +kernel
theorem dX6_payments_20 : decode cX6_payments 20 = .ok (.ladd, 1) := by decide +kernel
theorem dX6_payments_21 : decode cX6_payments 21 = .ok (.lstore 5, 2) := by decide +kernel
theorem dX6_payments_23 : decode cX6_payments 23 = .ok (.lload 5, 2) := by decide +kernel
theorem dX6_payments_25 : decode cX6_payments 25 = .ok (.lconst 0, 1) := by decide +kernel
theorem dX6_payments_26 : decode cX6_payments 26 = .ok (.lcmp, 1) := by decide +kernel
theorem dX6_payments_27 : decode cX6_payments 27 = .ok (.ifCond .gt 5, 3) := by decide +kernel
theorem dX6_payments_30 : decode cX6_payments 30 = .ok (.lconst 0, 1) := by decide +kernel
theorem dX6_payments_31 : decode cX6_payments 31 = .ok (.lreturn, 1) := by decide +kernel
theorem dX6_payments_32 : decode cX6_payments 32 = .ok (.lload 5, 2) := by decide +kernel
theorem dX6_payments_34 : decode cX6_payments 34 = .ok (.aload_n 0, 1) := by decide +kernel
theorem dX6_payments_35 : decode cX6_payments 35 = .ok (.iload_n 1, 1) := by decide +kernel
theorem dX6_payments_36 : decode cX6_payments 36 = .ok (.iconst 2, 1) := by decide +kernel
theorem dX6_payments_37 : decode cX6_payments 37 = .ok (.invokevirtual 36, 3) := by decide +kernel
theorem dX6_payments_40 : decode cX6_payments 40 = .ok (.i2l, 1) := by decide +kernel
theorem dX6_payments_41 : decode cX6_payments 41 = .ok (.lmul, 1) := by decide +kernel
theorem dX6_payments_42 : decode cX6_payments 42 = .ok (.aload_n 0, 1) := by decide +kernel
theorem dX6_payments_43 : decode cX6_payments 43 = .ok (.iload_n 1, 1) := by decide +kernel
theorem dX6_payments_44 : decode cX6_payments 44 = .ok (.iconst 3, 1) := by decide +kernel
theorem dX6_payments_45 : decode cX6_payments 45 = .ok (.invokevirtual 36, 3) := by decide +kernel
theorem dX6_payments_48 : decode cX6_payments 48 = .ok (.i2l, 1) := by decide +kernel
theorem dX6_payments_49 : decode cX6_payments 49 = .ok (.lsub, 1) := by decide +kernel
theorem dX6_payments_50 : decode cX6_payments 50 = .ok (.lstore 7, 2) := by decide +kernel
theorem dX6_payments_52 : decode cX6_payments 52 = .ok (.lload 7, 2) := by decide +kernel
theorem dX6_payments_54 : decode cX6_payments 54 = .ok (.lconst 0, 1) := by decide +kernel
theorem dX6_payments_55 : decode cX6_payments 55 = .ok (.lcmp, 1) := by decide +kernel
theorem dX6_payments_56 : decode cX6_payments 56 = .ok (.ifCond .gt 7, 3) := by decide +kernel
theorem dX6_payments_59 : decode cX6_payments 59 = .ok (.lconst 0, 1) := by decide +kernel
theorem dX6_payments_60 : decode cX6_payments 60 = .ok (.goto 13, 3) := by decide +kernel
theorem dX6_payments_63 : decode cX6_payments 63 = .ok (.lload 7, 2) := by decide +kernel
theorem dX6_payments_65 : decode cX6_payments 65 = .ok (.ldc2_w 183, 3) := by decide +kernel
theorem dX6_payments_68 : decode cX6_payments 68 = .ok (.ladd, 1) := by decide +kernel
theorem dX6_payments_69 : decode cX6_payments 69 = .ok (.ldc2_w 156, 3) := by decide +kernel
theorem dX6_payments_72 : decode cX6_payments 72 = .ok (.ldiv, 1) := by decide +kernel
theorem dX6_payments_73 : decode cX6_payments 73 = .ok (.lreturn, 1) := by decide +kernel
theorem dX6_bound_0 : decode cX6_bound 0 = .ok (.aload_n 0, 1) := by decide +kernel
theorem dX6_bound_1 : decode cX6_bound 1 = .ok (.iload_n 1, 1) := by decide +kernel
theorem dX6_bound_2 : decode cX6_bound 2 = .ok (.invokevirtual 158, 3) := by decide +kernel
theorem dX6_bound_5 : decode cX6_bound 5 = .ok (.ifCond .eq 13, 3) := by decide +kernel
theorem dX6_bound_8 : decode cX6_bound 8 = .ok (.aload_n 0, 1) := by decide +kernel
theorem dX6_bound_9 : decode cX6_bound 9 = .ok (.iload_n 1, 1) := by decide +kernel
theorem dX6_bound_10 : decode cX6_bound 10 = .ok (.bipush 6, 2) := by decide +kernel
theorem dX6_bound_12 : decode cX6_bound 12 = .ok (.invokevirtual 36, 3) := by decide +kernel
theorem dX6_bound_15 : decode cX6_bound 15 = .ok (.ifCond .eq 7, 3) := by decide +kernel
theorem dX6_bound_18 : decode cX6_bound 18 = .ok (.ldc2_w 176, 3) := by decide +kernel
theorem dX6_bound_21 : decode cX6_bound 21 = .ok (.lreturn, 1) := by decide +kernel
theorem dX6_bound_22 : decode cX6_bound 22 = .ok (.aload_n 0, 1) := by decide +kernel
theorem dX6_bound_23 : decode cX6_bound 23 = .ok (.iload_n 1, 1) := by decide +kernel
theorem dX6_bound_24 : decode cX6_bound 24 = .ok (.invokevirtual 67, 3) := by decide +kernel
theorem dX6_bound_27 : decode cX6_bound 27 = .ok (.istore_n 2, 1) := by decide +kernel
theorem dX6_bound_28 : decode cX6_bound 28 = .ok (.iconst 0, 1) := by decide +kernel
theorem dX6_bound_29 : decode cX6_bound 29 = .ok (.istore_n 3, 1) := by decide +kernel
theorem dX6_bound_30 : decode cX6_bound 30 = .ok (.lconst 0, 1) := by decide +kernel
theorem dX6_bound_31 : decode cX6_bound 31 = .ok (.lstore 4, 2) := by decide +kernel
theorem dX6_bound_33 : decode cX6_bound 33 = .ok (.iconst 0, 1) := by decide +kernel
theorem dX6_bound_34 : decode cX6_bound 34 = .ok (.istore 6, 2) := by decide +kernel
theorem dX6_bound_36 : decode cX6_bound 36 = .ok (.iload 6, 2) := by decide +kernel
theorem dX6_bound_38 : decode cX6_bound 38 = .ok (.aload_n 0, 1) := by decide +kernel
theorem dX6_bound_39 : decode cX6_bound 39 = .ok (.getfield 8, 3) := by decide +kernel
theorem dX6_bound_42 : decode cX6_bound 42 = .ok (.iconst 1, 1) := by decide +kernel
theorem dX6_bound_43 : decode cX6_bound 43 = .ok (.iaload, 1) := by decide +kernel
theorem dX6_bound_44 : decode cX6_bound 44 = .ok (.if_icmp .ge 184, 3) := by decide +kernel
theorem dX6_bound_47 : decode cX6_bound 47 = .ok (.aload_n 0, 1) := by decide +kernel
theorem dX6_bound_48 : decode cX6_bound 48 = .ok (.iload 6, 2) := by decide +kernel
theorem dX6_bound_50 : decode cX6_bound 50 = .ok (.bipush 6, 2) := by decide +kernel
theorem dX6_bound_52 : decode cX6_bound 52 = .ok (.invokevirtual 36, 3) := by decide +kernel
theorem dX6_bound_55 : decode cX6_bound 55 = .ok (.ifCond .ne 167, 3) := by decide +kernel
theorem dX6_bound_58 : decode cX6_bound 58 = .ok (.iload 6, 2) := by decide +kernel
theorem dX6_bound_60 : decode cX6_bound 60 = .ok (.iload_n 1, 1) := by decide +kernel
theorem dX6_bound_61 : decode cX6_bound 61 = .ok (.if_icmp .ne 6, 3) := by decide +kernel
theorem dX6_bound_64 : decode cX6_bound 64 = .ok (.goto 158, 3) := by decide +kernel
theorem dX6_bound_67 : decode cX6_bound 67 = .ok (.aload_n 0, 1) := by decide +kernel
theorem dX6_bound_68 : decode cX6_bound 68 = .ok (.iload 6, 2) := by decide +kernel
theorem dX6_bound_70 : decode cX6_bound 70 = .ok (.invokevirtual 67, 3) := by decide +kernel
theorem dX6_bound_73 : decode cX6_bound 73 = .ok (.istore 7, 2) := by decide +kernel
theorem dX6_bound_75 : decode cX6_bound 75 = .ok (.aload_n 0, 1) := by decide +kernel
theorem dX6_bound_76 : decode cX6_bound 76 = .ok (.iload 7, 2) := by decide +kernel
theorem dX6_bound_78 : decode cX6_bound 78 = .ok (.iload_n 2, 1) := by decide +kernel
theorem dX6_bound_79 : decode cX6_bound 79 = .ok (.invokevirtual 55, 3) := by decide +kernel
theorem dX6_bound_82 : decode cX6_bound 82 = .ok (.ifCond .ne 6, 3) := by decide +kernel
theorem dX6_bound_85 : decode cX6_bound 85 = .ok (.goto 137, 3) := by decide +kernel
theorem dX6_bound_88 : decode cX6_bound 88 = .ok (.iload 7, 2) := by decide +kernel
theorem dX6_bound_90 : decode cX6_bound 90 = .ok (.iload 6, 2) := by decide +kernel
theorem dX6_bound_92 : decode cX6_bound 92 = .ok (.if_icmp .eq 9, 3) := by decide +kernel
theorem dX6_bound_95 : decode cX6_bound 95 = .ok (.iinc 3 1, 3) := by decide +kernel
theorem dX6_bound_98 : decode cX6_bound 98 = .ok (.goto 124, 3) := by decide +kernel
theorem dX6_bound_101 : decode cX6_bound 101 = .ok (.aload_n 0, 1) := by decide +kernel
theorem dX6_bound_102 : decode cX6_bound 102 = .ok (.iload 6, 2) := by decide +kernel
theorem dX6_bound_104 : decode cX6_bound 104 = .ok (.invokevirtual 43, 3) := by decide +kernel
theorem dX6_bound_107 : decode cX6_bound 107 = .ok (.ifCond .eq 14, 3) := by decide +kernel
theorem dX6_bound_110 : decode cX6_bound 110 = .ok (.aload_n 0, 1) := by decide +kernel
theorem dX6_bound_111 : decode cX6_bound 111 = .ok (.iload 6, 2) := by decide +kernel
theorem dX6_bound_113 : decode cX6_bound 113 = .ok (.bipush 13, 2) := by decide +kernel
theorem dX6_bound_115 : decode cX6_bound 115 = .ok (.invokevirtual 36, 3) := by decide +kernel
theorem dX6_bound_118 : decode cX6_bound 118 = .ok (.goto 4, 3) := by decide +kernel
theorem dX6_bound_121 : decode cX6_bound 121 = .ok (.iconst 0, 1) := by decide +kernel
theorem dX6_bound_122 : decode cX6_bound 122 = .ok (.istore 8, 2) := by decide +kernel
theorem dX6_bound_124 : decode cX6_bound 124 = .ok (.aload_n 0, 1) := by decide +kernel
theorem dX6_bound_125 : decode cX6_bound 125 = .ok (.iload_n 2, 1) := by decide +kernel
theorem dX6_bound_126 : decode cX6_bound 126 = .ok (.invokevirtual 47, 3) := by decide +kernel
theorem dX6_bound_129 : decode cX6_bound 129 = .ok (.ifCond .ne 14, 3) := by decide +kernel
theorem dX6_bound_132 : decode cX6_bound 132 = .ok (.lload 4, 2) := by decide +kernel
theorem dX6_bound_134 : decode cX6_bound 134 = .ok (.iload 8, 2) := by decide +kernel
theorem dX6_bound_136 : decode cX6_bound 136 = .ok (.i2l, 1) := by decide +kernel
theorem dX6_bound_137 : decode cX6_bound 137 = .ok (.ladd, 1) := by decide +kernel
theorem dX6_bound_138 : decode cX6_bound 138 = .ok (.lstore 4, 2) := by decide +kernel
theorem dX6_bound_140 : decode cX6_bound 140 = .ok (.goto 82, 3) := by decide +kernel
theorem dX6_bound_143 : decode cX6_bound 143 = .ok (.aload_n 0, 1) := by decide +kernel
theorem dX6_bound_144 : decode cX6_bound 144 = .ok (.iload 6, 2) := by decide +kernel
theorem dX6_bound_146 : decode cX6_bound 146 = .ok (.aload_n 0, 1) := by decide +kernel
theorem dX6_bound_147 : decode cX6_bound 147 = .ok (.iload_n 2, 1) := by decide +kernel
theorem dX6_bound_148 : decode cX6_bound 148 = .ok (.invokevirtual 51, 3) := by decide +kernel
theorem dX6_bound_151 : decode cX6_bound 151 = .ok (.iload_n 2, 1) := by decide +kernel
theorem dX6_bound_152 : decode cX6_bound 152 = .ok (.invokevirtual 185, 3) := by decide +kernel
theorem dX6_bound_155 : decode cX6_bound 155 = .ok (.lstore 9, 2) := by decide +kernel
theorem dX6_bound_157 : decode cX6_bound 157 = .ok (.aload_n 0, 1) := by decide +kernel
theorem dX6_bound_158 : decode cX6_bound 158 = .ok (.iload 6, 2) := by decide +kernel
theorem dX6_bound_160 : decode cX6_bound 160 = .ok (.iconst 0, 1) := by decide +kernel
theorem dX6_bound_161 : decode cX6_bound 161 = .ok (.invokevirtual 36, 3) := by decide +kernel
theorem dX6_bound_164 : decode cX6_bound 164 = .ok (.istore 11, 2) := by decide +kernel
theorem dX6_bound_166 : decode cX6_bound 166 = .ok (.lload 4, 2) := by decide +kernel
theorem dX6_bound_168 : decode cX6_bound 168 = .ok (.iload 11, 2) := by decide +kernel
theorem dX6_bound_170 : decode cX6_bound 170 = .ok (.iconst 1, 1) := by decide +kernel
theorem dX6_bound_171 : decode cX6_bound 171 = .ok (.if_icmp .ne 12, 3) := by decide +kernel
theorem dX6_bound_174 : decode cX6_bound 174 = .ok (.iload 8, 2) := by decide +kernel
theorem dX6_bound_176 : decode cX6_bound 176 = .ok (.i2l, 1) := by decide +kernel
theorem dX6_bound_177 : decode cX6_bound 177 = .ok (.lload 9, 2) := by decide +kernel
theorem dX6_bound_179 : decode cX6_bound 179 = .ok (.ladd, 1) := by decide +kernel
theorem dX6_bound_180 : decode cX6_bound 180 = .ok (.goto 39, 3) := by decide +kernel
theorem dX6_bound_183 : decode cX6_bound 183 = .ok (.iload 11, 2) := by decide +kernel
theorem dX6_bound_185 : decode cX6_bound 185 = .ok (.iconst 2, 1) := by decide +kernel
theorem dX6_bound_186 : decode cX6_bound 186 = .ok (.if_icmp .ne 14, 3) := by decide +kernel
theorem dX6_bound_189 : decode cX6_bound 189 = .ok (.iload 8, 2) := by decide +kernel
theorem dX6_bound_191 : decode cX6_bound 191 = .ok (.i2l, 1) := by decide +kernel
theorem dX6_bound_192 : decode cX6_bound 192 = .ok (.lload 9, 2) := by decide +kernel
theorem dX6_bound_194 : decode cX6_bound 194 = .ok (.invokestatic 189, 3) := by decide +kernel
theorem dX6_bound_197 : decode cX6_bound 197 = .ok (.goto 22, 3) := by decide +kernel
theorem dX6_bound_200 : decode cX6_bound 200 = .ok (.iload 11, 2) := by decide +kernel
theorem dX6_bound_202 : decode cX6_bound 202 = .ok (.iconst 4, 1) := by decide +kernel
theorem dX6_bound_203 : decode cX6_bound 203 = .ok (.if_icmp .ne 14, 3) := by decide +kernel
theorem dX6_bound_206 : decode cX6_bound 206 = .ok (.lload 9, 2) := by decide +kernel
theorem dX6_bound_208 : decode cX6_bound 208 = .ok (.lconst 1, 1) := by decide +kernel
theorem dX6_bound_209 : decode cX6_bound 209 = .ok (.ladd, 1) := by decide +kernel
theorem dX6_bound_210 : decode cX6_bound 210 = .ok (.ldc2_w 178, 3) := by decide +kernel
theorem dX6_bound_213 : decode cX6_bound 213 = .ok (.ldiv, 1) := by decide +kernel
theorem dX6_bound_214 : decode cX6_bound 214 = .ok (.goto 5, 3) := by decide +kernel
theorem dX6_bound_217 : decode cX6_bound 217 = .ok (.lload 9, 2) := by decide +kernel
theorem dX6_bound_219 : decode cX6_bound 219 = .ok (.ladd, 1) := by decide +kernel
theorem dX6_bound_220 : decode cX6_bound 220 = .ok (.lstore 4, 2) := by decide +kernel
theorem dX6_bound_222 : decode cX6_bound 222 = .ok (.iinc 6 1, 3) := by decide +kernel
theorem dX6_bound_225 : decode cX6_bound 225 = .ok (.goto (-189), 3) := by decide +kernel
theorem dX6_bound_228 : decode cX6_bound 228 = .ok (.iload_n 3, 1) := by decide +kernel
theorem dX6_bound_229 : decode cX6_bound 229 = .ok (.aload_n 0, 1) := by decide +kernel
theorem dX6_bound_230 : decode cX6_bound 230 = .ok (.getfield 8, 3) := by decide +kernel
theorem dX6_bound_233 : decode cX6_bound 233 = .ok (.iconst 2, 1) := by decide +kernel
theorem dX6_bound_234 : decode cX6_bound 234 = .ok (.iaload, 1) := by decide +kernel
theorem dX6_bound_235 : decode cX6_bound 235 = .ok (.if_icmp .lt 9, 3) := by decide +kernel
theorem dX6_bound_238 : decode cX6_bound 238 = .ok (.ldc2_w 176, 3) := by decide +kernel
theorem dX6_bound_241 : decode cX6_bound 241 = .ok (.goto 17, 3) := by decide +kernel
theorem dX6_bound_244 : decode cX6_bound 244 = .ok (.lload 4, 2) := by decide +kernel
theorem dX6_bound_246 : decode cX6_bound 246 = .ok (.aload_n 0, 1) := by decide +kernel
theorem dX6_bound_247 : decode cX6_bound 247 = .ok (.getfield 8, 3) := by decide +kernel
theorem dX6_bound_250 : decode cX6_bound 250 = .ok (.iconst 2, 1) := by decide +kernel
theorem dX6_bound_251 : decode cX6_bound 251 = .ok (.iaload, 1) := by decide +kernel
theorem dX6_bound_252 : decode cX6_bound 252 = .ok (.iload_n 3, 1) := by decide +kernel
theorem dX6_bound_253 : decode cX6_bound 253 = .ok (.isub, 1) := by decide +kernel
theorem dX6_bound_254 : decode cX6_bound 254 = .ok (.i2l, 1) := by decide +kernel
theorem dX6_bound_255 : decode cX6_bound 255 = .ok (.ldiv, 1) := by decide +kernel
theorem dX6_bound_256 : decode cX6_bound 256 = .ok (.lconst 1, 1) := by decide +kernel
theorem dX6_bound_257 : decode cX6_bound 257 = .ok (.ladd, 1) := by decide +kernel
theorem dX6_bound_258 : decode cX6_bound 258 = .ok (.lreturn, 1) := by decide +kernel
theorem dX6_trace_0 : decode cX6_trace 0 = .ok (.iload_n 1, 1) := by decide +kernel
theorem dX6_trace_1 : decode cX6_trace 1 = .ok (.i2l, 1) := by decide +kernel
theorem dX6_trace_2 : decode cX6_trace 2 = .ok (.lconst 0, 1) := by decide +kernel
theorem dX6_trace_3 : decode cX6_trace 3 = .ok (.ldc2_w 192, 3) := by decide +kernel
theorem dX6_trace_6 : decode cX6_trace 6 = .ok (.invokestatic 32, 3) := by decide +kernel
theorem dX6_trace_9 : decode cX6_trace 9 = .ok (.ifCond .eq 16, 3) := by decide +kernel
theorem dX6_trace_12 : decode cX6_trace 12 = .ok (.aload_n 0, 1) := by decide +kernel
theorem dX6_trace_13 : decode cX6_trace 13 = .ok (.getfield 8, 3) := by decide +kernel
theorem dX6_trace_16 : decode cX6_trace 16 = .ok (.sipush 220, 3) := by decide +kernel
theorem dX6_trace_19 : decode cX6_trace 19 = .ok (.iload_n 1, 1) := by decide +kernel
theorem dX6_trace_20 : decode cX6_trace 20 = .ok (.iadd, 1) := by decide +kernel
theorem dX6_trace_21 : decode cX6_trace 21 = .ok (.iaload, 1) := by decide +kernel
theorem dX6_trace_22 : decode cX6_trace 22 = .ok (.goto 4, 3) := by decide +kernel
theorem dX6_trace_25 : decode cX6_trace 25 = .ok (.iconst (-1), 1) := by decide +kernel
theorem dX6_trace_26 : decode cX6_trace 26 = .ok (.ireturn, 1) := by decide +kernel
theorem dX6_count_0 : decode cX6_count 0 = .ok (.iconst 0, 1) := by decide +kernel
theorem dX6_count_1 : decode cX6_count 1 = .ok (.istore_n 2, 1) := by decide +kernel
theorem dX6_count_2 : decode cX6_count 2 = .ok (.iconst 0, 1) := by decide +kernel
theorem dX6_count_3 : decode cX6_count 3 = .ok (.istore_n 3, 1) := by decide +kernel
theorem dX6_count_4 : decode cX6_count 4 = .ok (.iconst 0, 1) := by decide +kernel
theorem dX6_count_5 : decode cX6_count 5 = .ok (.istore 4, 2) := by decide +kernel
theorem dX6_count_7 : decode cX6_count 7 = .ok (.iload 4, 2) := by decide +kernel
theorem dX6_count_9 : decode cX6_count 9 = .ok (.aload_n 0, 1) := by decide +kernel
theorem dX6_count_10 : decode cX6_count 10 = .ok (.getfield 8, 3) := by decide +kernel
theorem dX6_count_13 : decode cX6_count 13 = .ok (.iconst 1, 1) := by decide +kernel
theorem dX6_count_14 : decode cX6_count 14 = .ok (.iaload, 1) := by decide +kernel
theorem dX6_count_15 : decode cX6_count 15 = .ok (.if_icmp .ge 48, 3) := by decide +kernel
theorem dX6_count_18 : decode cX6_count 18 = .ok (.iload_n 2, 1) := by decide +kernel
theorem dX6_count_19 : decode cX6_count 19 = .ok (.aload_n 0, 1) := by decide +kernel
theorem dX6_count_20 : decode cX6_count 20 = .ok (.iload 4, 2) := by decide +kernel
theorem dX6_count_22 : decode cX6_count 22 = .ok (.bipush 6, 2) := by decide +kernel
theorem dX6_count_24 : decode cX6_count 24 = .ok (.invokevirtual 36, 3) := by decide +kernel
theorem dX6_count_27 : decode cX6_count 27 = .ok (.iconst 4, 1) := by decide +kernel
theorem dX6_count_28 : decode cX6_count 28 = .ok (.if_icmp .eq 7, 3) := by decide +kernel
theorem dX6_count_31 : decode cX6_count 31 = .ok (.iconst 1, 1) := by decide +kernel
theorem dX6_count_32 : decode cX6_count 32 = .ok (.goto 4, 3) := by decide +kernel
theorem dX6_count_35 : decode cX6_count 35 = .ok (.iconst 0, 1) := by decide +kernel
theorem dX6_count_36 : decode cX6_count 36 = .ok (.iadd, 1) := by decide +kernel
theorem dX6_count_37 : decode cX6_count 37 = .ok (.istore_n 2, 1) := by decide +kernel
theorem dX6_count_38 : decode cX6_count 38 = .ok (.iload_n 3, 1) := by decide +kernel
theorem dX6_count_39 : decode cX6_count 39 = .ok (.aload_n 0, 1) := by decide +kernel
theorem dX6_count_40 : decode cX6_count 40 = .ok (.iload 4, 2) := by decide +kernel
theorem dX6_count_42 : decode cX6_count 42 = .ok (.bipush 6, 2) := by decide +kernel
theorem dX6_count_44 : decode cX6_count 44 = .ok (.invokevirtual 36, 3) := by decide +kernel
theorem dX6_count_47 : decode cX6_count 47 = .ok (.ifCond .ne 7, 3) := by decide +kernel
theorem dX6_count_50 : decode cX6_count 50 = .ok (.iconst 1, 1) := by decide +kernel
theorem dX6_count_51 : decode cX6_count 51 = .ok (.goto 4, 3) := by decide +kernel
theorem dX6_count_54 : decode cX6_count 54 = .ok (.iconst 0, 1) := by decide +kernel
theorem dX6_count_55 : decode cX6_count 55 = .ok (.iadd, 1) := by decide +kernel
theorem dX6_count_56 : decode cX6_count 56 = .ok (.istore_n 3, 1) := by decide +kernel
theorem dX6_count_57 : decode cX6_count 57 = .ok (.iinc 4 1, 3) := by decide +kernel
theorem dX6_count_60 : decode cX6_count 60 = .ok (.goto (-53), 3) := by decide +kernel
theorem dX6_count_63 : decode cX6_count 63 = .ok (.iload_n 1, 1) := by decide +kernel
theorem dX6_count_64 : decode cX6_count 64 = .ok (.tableswitch 95 0 7 #[48, 55, 62, 64, 66, 73, 80, 87], 48) := by decide +kernel
theorem dX6_count_112 : decode cX6_count 112 = .ok (.aload_n 0, 1) := by decide +kernel
theorem dX6_count_113 : decode cX6_count 113 = .ok (.getfield 8, 3) := by decide +kernel
theorem dX6_count_116 : decode cX6_count 116 = .ok (.iconst 0, 1) := by decide +kernel
theorem dX6_count_117 : decode cX6_count 117 = .ok (.iaload, 1) := by decide +kernel
theorem dX6_count_118 : decode cX6_count 118 = .ok (.ireturn, 1) := by decide +kernel
theorem dX6_count_119 : decode cX6_count 119 = .ok (.aload_n 0, 1) := by decide +kernel
theorem dX6_count_120 : decode cX6_count 120 = .ok (.getfield 8, 3) := by decide +kernel
theorem dX6_count_123 : decode cX6_count 123 = .ok (.iconst 1, 1) := by decide +kernel
theorem dX6_count_124 : decode cX6_count 124 = .ok (.iaload, 1) := by decide +kernel
theorem dX6_count_125 : decode cX6_count 125 = .ok (.ireturn, 1) := by decide +kernel
theorem dX6_count_126 : decode cX6_count 126 = .ok (.iload_n 2, 1) := by decide +kernel
theorem dX6_count_127 : decode cX6_count 127 = .ok (.ireturn, 1) := by decide +kernel
theorem dX6_count_128 : decode cX6_count 128 = .ok (.iload_n 3, 1) := by decide +kernel
theorem dX6_count_129 : decode cX6_count 129 = .ok (.ireturn, 1) := by decide +kernel
theorem dX6_count_130 : decode cX6_count 130 = .ok (.aload_n 0, 1) := by decide +kernel
theorem dX6_count_131 : decode cX6_count 131 = .ok (.getfield 8, 3) := by decide +kernel
theorem dX6_count_134 : decode cX6_count 134 = .ok (.iconst 3, 1) := by decide +kernel
theorem dX6_count_135 : decode cX6_count 135 = .ok (.iaload, 1) := by decide +kernel
theorem dX6_count_136 : decode cX6_count 136 = .ok (.ireturn, 1) := by decide +kernel
theorem dX6_count_137 : decode cX6_count 137 = .ok (.aload_n 0, 1) := by decide +kernel
theorem dX6_count_138 : decode cX6_count 138 = .ok (.getfield 8, 3) := by decide +kernel
theorem dX6_count_141 : decode cX6_count 141 = .ok (.iconst 2, 1) := by decide +kernel
theorem dX6_count_142 : decode cX6_count 142 = .ok (.iaload, 1) := by decide +kernel
theorem dX6_count_143 : decode cX6_count 143 = .ok (.ireturn, 1) := by decide +kernel
theorem dX6_count_144 : decode cX6_count 144 = .ok (.aload_n 0, 1) := by decide +kernel
theorem dX6_count_145 : decode cX6_count 145 = .ok (.getfield 8, 3) := by decide +kernel
theorem dX6_count_148 : decode cX6_count 148 = .ok (.iconst 4, 1) := by decide +kernel
theorem dX6_count_149 : decode cX6_count 149 = .ok (.iaload, 1) := by decide +kernel
theorem dX6_count_150 : decode cX6_count 150 = .ok (.ireturn, 1) := by decide +kernel
theorem dX6_count_151 : decode cX6_count 151 = .ok (.aload_n 0, 1) := by decide +kernel
theorem dX6_count_152 : decode cX6_count 152 = .ok (.getfield 8, 3) := by decide +kernel
theorem dX6_count_155 : decode cX6_count 155 = .ok (.bipush 6, 2) := by decide +kernel
theorem dX6_count_157 : decode cX6_count 157 = .ok (.iaload, 1) := by decide +kernel
theorem dX6_count_158 : decode cX6_count 158 = .ok (.ireturn, 1) := by decide +kernel
theorem dX6_count_159 : decode cX6_count 159 = .ok (.iconst (-1), 1) := by decide +kernel
theorem dX6_count_160 : decode cX6_count 160 = .ok (.ireturn, 1) := by decide +kernel
theorem dX6_image_0 : decode cX6_image 0 = .ok (.iconst 0, 1) := by decide +kernel
theorem dX6_image_1 : decode cX6_image 1 = .ok (.istore_n 1, 1) := by decide +kernel
theorem dX6_image_2 : decode cX6_image 2 = .ok (.iload_n 1, 1) := by decide +kernel
theorem dX6_image_3 : decode cX6_image 3 = .ok (.ldc 7, 2) := by decide +kernel
theorem dX6_image_5 : decode cX6_image 5 = .ok (.if_icmp .ge 21, 3) := by decide +kernel
theorem dX6_image_8 : decode cX6_image 8 = .ok (.aload_n 0, 1) := by decide +kernel
theorem dX6_image_9 : decode cX6_image 9 = .ok (.getfield 18, 3) := by decide +kernel
theorem dX6_image_12 : decode cX6_image 12 = .ok (.iload_n 1, 1) := by decide +kernel
theorem dX6_image_13 : decode cX6_image 13 = .ok (.aload_n 0, 1) := by decide +kernel
theorem dX6_image_14 : decode cX6_image 14 = .ok (.getfield 8, 3) := by decide +kernel
theorem dX6_image_17 : decode cX6_image 17 = .ok (.iload_n 1, 1) := by decide +kernel
theorem dX6_image_18 : decode cX6_image 18 = .ok (.iaload, 1) := by decide +kernel
theorem dX6_image_19 : decode cX6_image 19 = .ok (.iastore, 1) := by decide +kernel
theorem dX6_image_20 : decode cX6_image 20 = .ok (.iinc 1 1, 3) := by decide +kernel
theorem dX6_image_23 : decode cX6_image 23 = .ok (.goto (-21), 3) := by decide +kernel
theorem dX6_image_26 : decode cX6_image 26 = .ok (.iconst 0, 1) := by decide +kernel
theorem dX6_image_27 : decode cX6_image 27 = .ok (.istore_n 1, 1) := by decide +kernel
theorem dX6_image_28 : decode cX6_image 28 = .ok (.iload_n 1, 1) := by decide +kernel
theorem dX6_image_29 : decode cX6_image 29 = .ok (.sipush 200, 3) := by decide +kernel
theorem dX6_image_32 : decode cX6_image 32 = .ok (.if_icmp .ge 21, 3) := by decide +kernel
theorem dX6_image_35 : decode cX6_image 35 = .ok (.aload_n 0, 1) := by decide +kernel
theorem dX6_image_36 : decode cX6_image 36 = .ok (.getfield 21, 3) := by decide +kernel
theorem dX6_image_39 : decode cX6_image 39 = .ok (.iload_n 1, 1) := by decide +kernel
theorem dX6_image_40 : decode cX6_image 40 = .ok (.aload_n 0, 1) := by decide +kernel
theorem dX6_image_41 : decode cX6_image 41 = .ok (.getfield 14, 3) := by decide +kernel
theorem dX6_image_44 : decode cX6_image 44 = .ok (.iload_n 1, 1) := by decide +kernel
theorem dX6_image_45 : decode cX6_image 45 = .ok (.laload, 1) := by decide +kernel
theorem dX6_image_46 : decode cX6_image 46 = .ok (.lastore, 1) := by decide +kernel
theorem dX6_image_47 : decode cX6_image 47 = .ok (.iinc 1 1, 3) := by decide +kernel
theorem dX6_image_50 : decode cX6_image 50 = .ok (.goto (-22), 3) := by decide +kernel
theorem dX6_image_53 : decode cX6_image 53 = .ok (.aload_n 0, 1) := by decide +kernel
theorem dX6_image_54 : decode cX6_image 54 = .ok (.iconst 1, 1) := by decide +kernel
theorem dX6_image_55 : decode cX6_image 55 = .ok (.putfield 194, 3) := by decide +kernel
theorem dX6_image_58 : decode cX6_image 58 = .ok (.aload_n 0, 1) := by decide +kernel
theorem dX6_image_59 : decode cX6_image 59 = .ok (.invokevirtual 198, 3) := by decide +kernel
theorem dX6_image_62 : decode cX6_image 62 = .ok (.lreturn, 1) := by decide +kernel
theorem dX6_load_0 : decode cX6_load 0 = .ok (.aload_n 0, 1) := by decide +kernel
theorem dX6_load_1 : decode cX6_load 1 = .ok (.aload_n 0, 1) := by decide +kernel
theorem dX6_load_2 : decode cX6_load 2 = .ok (.getfield 194, 3) := by decide +kernel
theorem dX6_load_5 : decode cX6_load 5 = .ok (.ifCond .eq 7, 3) := by decide +kernel
theorem dX6_load_8 : decode cX6_load 8 = .ok (.iconst 0, 1) := by decide +kernel
theorem dX6_load_9 : decode cX6_load 9 = .ok (.goto 4, 3) := by decide +kernel
theorem dX6_load_12 : decode cX6_load 12 = .ok (.iconst 2, 1) := by decide +kernel
theorem dX6_load_13 : decode cX6_load 13 = .ok (.putfield 40, 3) := by decide +kernel
theorem dX6_load_16 : decode cX6_load 16 = .ok (.aload_n 0, 1) := by decide +kernel
theorem dX6_load_17 : decode cX6_load 17 = .ok (.getfield 194, 3) := by decide +kernel
theorem dX6_load_20 : decode cX6_load 20 = .ok (.ifCond .ne 5, 3) := by decide +kernel
theorem dX6_load_23 : decode cX6_load 23 = .ok (.iconst 0, 1) := by decide +kernel
theorem dX6_load_24 : decode cX6_load 24 = .ok (.ireturn, 1) := by decide +kernel
theorem dX6_load_25 : decode cX6_load 25 = .ok (.iconst 0, 1) := by decide +kernel
theorem dX6_load_26 : decode cX6_load 26 = .ok (.istore_n 1, 1) := by decide +kernel
theorem dX6_load_27 : decode cX6_load 27 = .ok (.iload_n 1, 1) := by decide +kernel
theorem dX6_load_28 : decode cX6_load 28 = .ok (.ldc 7, 2) := by decide +kernel
theorem dX6_load_30 : decode cX6_load 30 = .ok (.if_icmp .ge 21, 3) := by decide +kernel
theorem dX6_load_33 : decode cX6_load 33 = .ok (.aload_n 0, 1) := by decide +kernel
theorem dX6_load_34 : decode cX6_load 34 = .ok (.getfield 8, 3) := by decide +kernel
theorem dX6_load_37 : decode cX6_load 37 = .ok (.iload_n 1, 1) := by decide +kernel
theorem dX6_load_38 : decode cX6_load 38 = .ok (.aload_n 0, 1) := by decide +kernel
theorem dX6_load_39 : decode cX6_load 39 = .ok (.getfield 18, 3) := by decide +kernel
theorem dX6_load_42 : decode cX6_load 42 = .ok (.iload_n 1, 1) := by decide +kernel
theorem dX6_load_43 : decode cX6_load 43 = .ok (.iaload, 1) := by decide +kernel
theorem dX6_load_44 : decode cX6_load 44 = .ok (.iastore, 1) := by decide +kernel
theorem dX6_load_45 : decode cX6_load 45 = .ok (.iinc 1 1, 3) := by decide +kernel
theorem dX6_load_48 : decode cX6_load 48 = .ok (.goto (-21), 3) := by decide +kernel
theorem dX6_load_51 : decode cX6_load 51 = .ok (.iconst 0, 1) := by decide +kernel
theorem dX6_load_52 : decode cX6_load 52 = .ok (.istore_n 1, 1) := by decide +kernel
theorem dX6_load_53 : decode cX6_load 53 = .ok (.iload_n 1, 1) := by decide +kernel
theorem dX6_load_54 : decode cX6_load 54 = .ok (.sipush 200, 3) := by decide +kernel
theorem dX6_load_57 : decode cX6_load 57 = .ok (.if_icmp .ge 21, 3) := by decide +kernel
theorem dX6_load_60 : decode cX6_load 60 = .ok (.aload_n 0, 1) := by decide +kernel
theorem dX6_load_61 : decode cX6_load 61 = .ok (.getfield 14, 3) := by decide +kernel
theorem dX6_load_64 : decode cX6_load 64 = .ok (.iload_n 1, 1) := by decide +kernel
theorem dX6_load_65 : decode cX6_load 65 = .ok (.aload_n 0, 1) := by decide +kernel
theorem dX6_load_66 : decode cX6_load 66 = .ok (.getfield 21, 3) := by decide +kernel
theorem dX6_load_69 : decode cX6_load 69 = .ok (.iload_n 1, 1) := by decide +kernel
theorem dX6_load_70 : decode cX6_load 70 = .ok (.laload, 1) := by decide +kernel
theorem dX6_load_71 : decode cX6_load 71 = .ok (.lastore, 1) := by decide +kernel
theorem dX6_load_72 : decode cX6_load 72 = .ok (.iinc 1 1, 3) := by decide +kernel
theorem dX6_load_75 : decode cX6_load 75 = .ok (.goto (-22), 3) := by decide +kernel
theorem dX6_load_78 : decode cX6_load 78 = .ok (.iconst 1, 1) := by decide +kernel
theorem dX6_load_79 : decode cX6_load 79 = .ok (.ireturn, 1) := by decide +kernel
theorem dX6_digest_0 : decode cX6_digest 0 = .ok (.ldc2_w 202, 3) := by decide +kernel
theorem dX6_digest_3 : decode cX6_digest 3 = .ok (.lstore_n 1, 1) := by decide +kernel
theorem dX6_digest_4 : decode cX6_digest 4 = .ok (.lload_n 1, 1) := by decide +kernel
theorem dX6_digest_5 : decode cX6_digest 5 = .ok (.ldc2_w 125, 3) := by decide +kernel
theorem dX6_digest_8 : decode cX6_digest 8 = .ok (.lmul, 1) := by decide +kernel
theorem dX6_digest_9 : decode cX6_digest 9 = .ok (.aload_n 0, 1) := by decide +kernel
theorem dX6_digest_10 : decode cX6_digest 10 = .ok (.getfield 8, 3) := by decide +kernel
theorem dX6_digest_13 : decode cX6_digest 13 = .ok (.iconst 0, 1) := by decide +kernel
theorem dX6_digest_14 : decode cX6_digest 14 = .ok (.iaload, 1) := by decide +kernel
theorem dX6_digest_15 : decode cX6_digest 15 = .ok (.i2l, 1) := by decide +kernel
theorem dX6_digest_16 : decode cX6_digest 16 = .ok (.ladd, 1) := by decide +kernel
theorem dX6_digest_17 : decode cX6_digest 17 = .ok (.lstore_n 1, 1) := by decide +kernel
theorem dX6_digest_18 : decode cX6_digest 18 = .ok (.lload_n 1, 1) := by decide +kernel
theorem dX6_digest_19 : decode cX6_digest 19 = .ok (.ldc2_w 125, 3) := by decide +kernel
theorem dX6_digest_22 : decode cX6_digest 22 = .ok (.lmul, 1) := by decide +kernel
theorem dX6_digest_23 : decode cX6_digest 23 = .ok (.aload_n 0, 1) := by decide +kernel
theorem dX6_digest_24 : decode cX6_digest 24 = .ok (.getfield 8, 3) := by decide +kernel
theorem dX6_digest_27 : decode cX6_digest 27 = .ok (.iconst 1, 1) := by decide +kernel
theorem dX6_digest_28 : decode cX6_digest 28 = .ok (.iaload, 1) := by decide +kernel
theorem dX6_digest_29 : decode cX6_digest 29 = .ok (.i2l, 1) := by decide +kernel
theorem dX6_digest_30 : decode cX6_digest 30 = .ok (.ladd, 1) := by decide +kernel
theorem dX6_digest_31 : decode cX6_digest 31 = .ok (.lstore_n 1, 1) := by decide +kernel
theorem dX6_digest_32 : decode cX6_digest 32 = .ok (.lload_n 1, 1) := by decide +kernel
theorem dX6_digest_33 : decode cX6_digest 33 = .ok (.ldc2_w 125, 3) := by decide +kernel
theorem dX6_digest_36 : decode cX6_digest 36 = .ok (.lmul, 1) := by decide +kernel
theorem dX6_digest_37 : decode cX6_digest 37 = .ok (.aload_n 0, 1) := by decide +kernel
theorem dX6_digest_38 : decode cX6_digest 38 = .ok (.getfield 8, 3) := by decide +kernel
theorem dX6_digest_41 : decode cX6_digest 41 = .ok (.iconst 2, 1) := by decide +kernel
theorem dX6_digest_42 : decode cX6_digest 42 = .ok (.iaload, 1) := by decide +kernel
theorem dX6_digest_43 : decode cX6_digest 43 = .ok (.i2l, 1) := by decide +kernel
theorem dX6_digest_44 : decode cX6_digest 44 = .ok (.ladd, 1) := by decide +kernel
theorem dX6_digest_45 : decode cX6_digest 45 = .ok (.lstore_n 1, 1) := by decide +kernel
theorem dX6_digest_46 : decode cX6_digest 46 = .ok (.iconst 0, 1) := by decide +kernel
theorem dX6_digest_47 : decode cX6_digest 47 = .ok (.istore_n 3, 1) := by decide +kernel
theorem dX6_digest_48 : decode cX6_digest 48 = .ok (.iload_n 3, 1) := by decide +kernel
theorem dX6_digest_49 : decode cX6_digest 49 = .ok (.aload_n 0, 1) := by decide +kernel
theorem dX6_digest_50 : decode cX6_digest 50 = .ok (.getfield 8, 3) := by decide +kernel
theorem dX6_digest_53 : decode cX6_digest 53 = .ok (.iconst 1, 1) := by decide +kernel
theorem dX6_digest_54 : decode cX6_digest 54 = .ok (.iaload, 1) := by decide +kernel
theorem dX6_digest_55 : decode cX6_digest 55 = .ok (.if_icmp .ge 99, 3) := by decide +kernel
theorem dX6_digest_58 : decode cX6_digest 58 = .ok (.iconst 0, 1) := by decide +kernel
theorem dX6_digest_59 : decode cX6_digest 59 = .ok (.istore 4, 2) := by decide +kernel
theorem dX6_digest_61 : decode cX6_digest 61 = .ok (.iload 4, 2) := by decide +kernel
theorem dX6_digest_63 : decode cX6_digest 63 = .ok (.bipush 15, 2) := by decide +kernel
theorem dX6_digest_65 : decode cX6_digest 65 = .ok (.if_icmp .ge 24, 3) := by decide +kernel
theorem dX6_digest_68 : decode cX6_digest 68 = .ok (.lload_n 1, 1) := by decide +kernel
theorem dX6_digest_69 : decode cX6_digest 69 = .ok (.ldc2_w 125, 3) := by decide +kernel
theorem dX6_digest_72 : decode cX6_digest 72 = .ok (.lmul, 1) := by decide +kernel
theorem dX6_digest_73 : decode cX6_digest 73 = .ok (.aload_n 0, 1) := by decide +kernel
theorem dX6_digest_74 : decode cX6_digest 74 = .ok (.iload_n 3, 1) := by decide +kernel
theorem dX6_digest_75 : decode cX6_digest 75 = .ok (.iload 4, 2) := by decide +kernel
theorem dX6_digest_77 : decode cX6_digest 77 = .ok (.invokevirtual 204, 3) := by decide +kernel
theorem dX6_digest_80 : decode cX6_digest 80 = .ok (.i2l, 1) := by decide +kernel
theorem dX6_digest_81 : decode cX6_digest 81 = .ok (.ladd, 1) := by decide +kernel
theorem dX6_digest_82 : decode cX6_digest 82 = .ok (.lstore_n 1, 1) := by decide +kernel
theorem dX6_digest_83 : decode cX6_digest 83 = .ok (.iinc 4 1, 3) := by decide +kernel
theorem dX6_digest_86 : decode cX6_digest 86 = .ok (.goto (-25), 3) := by decide +kernel
theorem dX6_digest_89 : decode cX6_digest 89 = .ok (.lload_n 1, 1) := by decide +kernel
theorem dX6_digest_90 : decode cX6_digest 90 = .ok (.ldc2_w 125, 3) := by decide +kernel
theorem dX6_digest_93 : decode cX6_digest 93 = .ok (.lmul, 1) := by decide +kernel
theorem dX6_digest_94 : decode cX6_digest 94 = .ok (.aload_n 0, 1) := by decide +kernel
theorem dX6_digest_95 : decode cX6_digest 95 = .ok (.getfield 14, 3) := by decide +kernel
theorem dX6_digest_98 : decode cX6_digest 98 = .ok (.iload_n 3, 1) := by decide +kernel
theorem dX6_digest_99 : decode cX6_digest 99 = .ok (.laload, 1) := by decide +kernel
theorem dX6_digest_100 : decode cX6_digest 100 = .ok (.ladd, 1) := by decide +kernel
theorem dX6_digest_101 : decode cX6_digest 101 = .ok (.lstore_n 1, 1) := by decide +kernel
theorem dX6_digest_102 : decode cX6_digest 102 = .ok (.iconst 0, 1) := by decide +kernel
theorem dX6_digest_103 : decode cX6_digest 103 = .ok (.istore 4, 2) := by decide +kernel
theorem dX6_digest_105 : decode cX6_digest 105 = .ok (.iload 4, 2) := by decide +kernel
theorem dX6_digest_107 : decode cX6_digest 107 = .ok (.aload_n 0, 1) := by decide +kernel
theorem dX6_digest_108 : decode cX6_digest 108 = .ok (.iload_n 3, 1) := by decide +kernel
theorem dX6_digest_109 : decode cX6_digest 109 = .ok (.bipush 14, 2) := by decide +kernel
theorem dX6_digest_111 : decode cX6_digest 111 = .ok (.invokevirtual 36, 3) := by decide +kernel
theorem dX6_digest_114 : decode cX6_digest 114 = .ok (.if_icmp .ge 34, 3) := by decide +kernel
theorem dX6_digest_117 : decode cX6_digest 117 = .ok (.lload_n 1, 1) := by decide +kernel
theorem dX6_digest_118 : decode cX6_digest 118 = .ok (.ldc2_w 125, 3) := by decide +kernel
theorem dX6_digest_121 : decode cX6_digest 121 = .ok (.lmul, 1) := by decide +kernel
theorem dX6_digest_122 : decode cX6_digest 122 = .ok (.aload_n 0, 1) := by decide +kernel
theorem dX6_digest_123 : decode cX6_digest 123 = .ok (.getfield 8, 3) := by decide +kernel
theorem dX6_digest_126 : decode cX6_digest 126 = .ok (.sipush 4400, 3) := by decide +kernel
theorem dX6_digest_129 : decode cX6_digest 129 = .ok (.sipush 128, 3) := by decide +kernel
theorem dX6_digest_132 : decode cX6_digest 132 = .ok (.iload_n 3, 1) := by decide +kernel
theorem dX6_digest_133 : decode cX6_digest 133 = .ok (.imul, 1) := by decide +kernel
theorem dX6_digest_134 : decode cX6_digest 134 = .ok (.iadd, 1) := by decide +kernel
theorem dX6_digest_135 : decode cX6_digest 135 = .ok (.iload 4, 2) := by decide +kernel
theorem dX6_digest_137 : decode cX6_digest 137 = .ok (.iadd, 1) := by decide +kernel
theorem dX6_digest_138 : decode cX6_digest 138 = .ok (.iaload, 1) := by decide +kernel
theorem dX6_digest_139 : decode cX6_digest 139 = .ok (.i2l, 1) := by decide +kernel
theorem dX6_digest_140 : decode cX6_digest 140 = .ok (.ladd, 1) := by decide +kernel
theorem dX6_digest_141 : decode cX6_digest 141 = .ok (.lstore_n 1, 1) := by decide +kernel
theorem dX6_digest_142 : decode cX6_digest 142 = .ok (.iinc 4 1, 3) := by decide +kernel
theorem dX6_digest_145 : decode cX6_digest 145 = .ok (.goto (-40), 3) := by decide +kernel
theorem dX6_digest_148 : decode cX6_digest 148 = .ok (.iinc 3 1, 3) := by decide +kernel
theorem dX6_digest_151 : decode cX6_digest 151 = .ok (.goto (-103), 3) := by decide +kernel
theorem dX6_digest_154 : decode cX6_digest 154 = .ok (.iconst 0, 1) := by decide +kernel
theorem dX6_digest_155 : decode cX6_digest 155 = .ok (.istore_n 3, 1) := by decide +kernel
theorem dX6_digest_156 : decode cX6_digest 156 = .ok (.iload_n 3, 1) := by decide +kernel
theorem dX6_digest_157 : decode cX6_digest 157 = .ok (.bipush 100, 2) := by decide +kernel
theorem dX6_digest_159 : decode cX6_digest 159 = .ok (.if_icmp .ge 27, 3) := by decide +kernel
theorem dX6_digest_162 : decode cX6_digest 162 = .ok (.lload_n 1, 1) := by decide +kernel
theorem dX6_digest_163 : decode cX6_digest 163 = .ok (.ldc2_w 125, 3) := by decide +kernel
theorem dX6_digest_166 : decode cX6_digest 166 = .ok (.lmul, 1) := by decide +kernel
theorem dX6_digest_167 : decode cX6_digest 167 = .ok (.aload_n 0, 1) := by decide +kernel
theorem dX6_digest_168 : decode cX6_digest 168 = .ok (.getfield 8, 3) := by decide +kernel
theorem dX6_digest_171 : decode cX6_digest 171 = .ok (.sipush 240, 3) := by decide +kernel
theorem dX6_digest_174 : decode cX6_digest 174 = .ok (.iload_n 3, 1) := by decide +kernel
theorem dX6_digest_175 : decode cX6_digest 175 = .ok (.iadd, 1) := by decide +kernel
theorem dX6_digest_176 : decode cX6_digest 176 = .ok (.iaload, 1) := by decide +kernel
theorem dX6_digest_177 : decode cX6_digest 177 = .ok (.i2l, 1) := by decide +kernel
theorem dX6_digest_178 : decode cX6_digest 178 = .ok (.ladd, 1) := by decide +kernel
theorem dX6_digest_179 : decode cX6_digest 179 = .ok (.lstore_n 1, 1) := by decide +kernel
theorem dX6_digest_180 : decode cX6_digest 180 = .ok (.iinc 3 1, 3) := by decide +kernel
theorem dX6_digest_183 : decode cX6_digest 183 = .ok (.goto (-27), 3) := by decide +kernel
theorem dX6_digest_186 : decode cX6_digest 186 = .ok (.iconst 0, 1) := by decide +kernel
theorem dX6_digest_187 : decode cX6_digest 187 = .ok (.istore_n 3, 1) := by decide +kernel
theorem dX6_digest_188 : decode cX6_digest 188 = .ok (.iload_n 3, 1) := by decide +kernel
theorem dX6_digest_189 : decode cX6_digest 189 = .ok (.iconst 5, 1) := by decide +kernel
theorem dX6_digest_190 : decode cX6_digest 190 = .ok (.aload_n 0, 1) := by decide +kernel
theorem dX6_digest_191 : decode cX6_digest 191 = .ok (.getfield 8, 3) := by decide +kernel
theorem dX6_digest_194 : decode cX6_digest 194 = .ok (.iconst 3, 1) := by decide +kernel
theorem dX6_digest_195 : decode cX6_digest 195 = .ok (.iaload, 1) := by decide +kernel
theorem dX6_digest_196 : decode cX6_digest 196 = .ok (.imul, 1) := by decide +kernel
theorem dX6_digest_197 : decode cX6_digest 197 = .ok (.if_icmp .ge 26, 3) := by decide +kernel
theorem dX6_digest_200 : decode cX6_digest 200 = .ok (.lload_n 1, 1) := by decide +kernel
theorem dX6_digest_201 : decode cX6_digest 201 = .ok (.ldc2_w 125, 3) := by decide +kernel
theorem dX6_digest_204 : decode cX6_digest 204 = .ok (.lmul, 1) := by decide +kernel
theorem dX6_digest_205 : decode cX6_digest 205 = .ok (.aload_n 0, 1) := by decide +kernel
theorem dX6_digest_206 : decode cX6_digest 206 = .ok (.getfield 8, 3) := by decide +kernel
theorem dX6_digest_209 : decode cX6_digest 209 = .ok (.ldc 140, 2) := by decide +kernel
theorem dX6_digest_211 : decode cX6_digest 211 = .ok (.iload_n 3, 1) := by decide +kernel
theorem dX6_digest_212 : decode cX6_digest 212 = .ok (.iadd, 1) := by decide +kernel
theorem dX6_digest_213 : decode cX6_digest 213 = .ok (.iaload, 1) := by decide +kernel
theorem dX6_digest_214 : decode cX6_digest 214 = .ok (.i2l, 1) := by decide +kernel
theorem dX6_digest_215 : decode cX6_digest 215 = .ok (.ladd, 1) := by decide +kernel
theorem dX6_digest_216 : decode cX6_digest 216 = .ok (.lstore_n 1, 1) := by decide +kernel
theorem dX6_digest_217 : decode cX6_digest 217 = .ok (.iinc 3 1, 3) := by decide +kernel
theorem dX6_digest_220 : decode cX6_digest 220 = .ok (.goto (-32), 3) := by decide +kernel
theorem dX6_digest_223 : decode cX6_digest 223 = .ok (.iconst 0, 1) := by decide +kernel
theorem dX6_digest_224 : decode cX6_digest 224 = .ok (.istore_n 3, 1) := by decide +kernel
theorem dX6_digest_225 : decode cX6_digest 225 = .ok (.iload_n 3, 1) := by decide +kernel
theorem dX6_digest_226 : decode cX6_digest 226 = .ok (.bipush 12, 2) := by decide +kernel
theorem dX6_digest_228 : decode cX6_digest 228 = .ok (.if_icmp .ge 27, 3) := by decide +kernel
theorem dX6_digest_231 : decode cX6_digest 231 = .ok (.lload_n 1, 1) := by decide +kernel
theorem dX6_digest_232 : decode cX6_digest 232 = .ok (.ldc2_w 125, 3) := by decide +kernel
theorem dX6_digest_235 : decode cX6_digest 235 = .ok (.lmul, 1) := by decide +kernel
theorem dX6_digest_236 : decode cX6_digest 236 = .ok (.aload_n 0, 1) := by decide +kernel
theorem dX6_digest_237 : decode cX6_digest 237 = .ok (.getfield 8, 3) := by decide +kernel
theorem dX6_digest_240 : decode cX6_digest 240 = .ok (.sipush 220, 3) := by decide +kernel
theorem dX6_digest_243 : decode cX6_digest 243 = .ok (.iload_n 3, 1) := by decide +kernel
theorem dX6_digest_244 : decode cX6_digest 244 = .ok (.iadd, 1) := by decide +kernel
theorem dX6_digest_245 : decode cX6_digest 245 = .ok (.iaload, 1) := by decide +kernel
theorem dX6_digest_246 : decode cX6_digest 246 = .ok (.i2l, 1) := by decide +kernel
theorem dX6_digest_247 : decode cX6_digest 247 = .ok (.ladd, 1) := by decide +kernel
theorem dX6_digest_248 : decode cX6_digest 248 = .ok (.lstore_n 1, 1) := by decide +kernel
theorem dX6_digest_249 : decode cX6_digest 249 = .ok (.iinc 3 1, 3) := by decide +kernel
theorem dX6_digest_252 : decode cX6_digest 252 = .ok (.goto (-27), 3) := by decide +kernel
theorem dX6_digest_255 : decode cX6_digest 255 = .ok (.lload_n 1, 1) := by decide +kernel
theorem dX6_digest_256 : decode cX6_digest 256 = .ok (.lreturn, 1) := by decide +kernel
theorem dX6_status_0 : decode cX6_status 0 = .ok (.aload_n 0, 1) := by decide +kernel
theorem dX6_status_1 : decode cX6_status 1 = .ok (.getfield 40, 3) := by decide +kernel
theorem dX6_status_4 : decode cX6_status 4 = .ok (.ireturn, 1) := by decide +kernel
