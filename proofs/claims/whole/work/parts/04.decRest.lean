theorem dX1_init_0 : decode cX1_init 0 = .ok (.aload_n 0, 1) := by decide +kernel
theorem dX1_init_1 : decode cX1_init 1 = .ok (.invokespecial 3, 3) := by decide +kernel
theorem dX1_init_4 : decode cX1_init 4 = .ok (.aload_n 0, 1) := by decide +kernel
theorem dX1_init_5 : decode cX1_init 5 = .ok (.iconst 0, 1) := by decide +kernel
theorem dX1_init_6 : decode cX1_init 6 = .ok (.putfield 9, 3) := by decide +kernel
theorem dX1_init_9 : decode cX1_init 9 = .ok (.aload_n 0, 1) := by decide +kernel
theorem dX1_init_10 : decode cX1_init 10 = .ok (.sipush 256, 3) := by decide +kernel
theorem dX1_init_13 : decode cX1_init 13 = .ok (.newarray .long, 2) := by decide +kernel
theorem dX1_init_15 : decode cX1_init 15 = .ok (.putfield 15, 3) := by decide +kernel
theorem dX1_init_18 : decode cX1_init 18 = .ok (.return_, 1) := by decide +kernel
theorem dX1_become_0 : decode cX1_become 0 = .ok (.aload_n 0, 1) := by decide +kernel
theorem dX1_become_1 : decode cX1_become 1 = .ok (.getfield 15, 3) := by decide +kernel
theorem dX1_become_4 : decode cX1_become 4 = .ok (.arraylength, 1) := by decide +kernel
theorem dX1_become_5 : decode cX1_become 5 = .ok (.aload_n 1, 1) := by decide +kernel
theorem dX1_become_6 : decode cX1_become 6 = .ok (.getfield 15, 3) := by decide +kernel
theorem dX1_become_9 : decode cX1_become 9 = .ok (.arraylength, 1) := by decide +kernel
theorem dX1_become_10 : decode cX1_become 10 = .ok (.if_icmp .ge 14, 3) := by decide +kernel
theorem dX1_become_13 : decode cX1_become 13 = .ok (.aload_n 0, 1) := by decide +kernel
theorem dX1_become_14 : decode cX1_become 14 = .ok (.aload_n 1, 1) := by decide +kernel
theorem dX1_become_15 : decode cX1_become 15 = .ok (.getfield 15, 3) := by decide +kernel
theorem dX1_become_18 : decode cX1_become 18 = .ok (.arraylength, 1) := by decide +kernel
theorem dX1_become_19 : decode cX1_become 19 = .ok (.newarray .long, 2) := by decide +kernel
theorem dX1_become_21 : decode cX1_become 21 = .ok (.putfield 15, 3) := by decide +kernel
theorem dX1_become_24 : decode cX1_become 24 = .ok (.aload_n 1, 1) := by decide +kernel
theorem dX1_become_25 : decode cX1_become 25 = .ok (.getfield 15, 3) := by decide +kernel
theorem dX1_become_28 : decode cX1_become 28 = .ok (.iconst 0, 1) := by decide +kernel
theorem dX1_become_29 : decode cX1_become 29 = .ok (.aload_n 0, 1) := by decide +kernel
theorem dX1_become_30 : decode cX1_become 30 = .ok (.getfield 15, 3) := by decide +kernel
theorem dX1_become_33 : decode cX1_become 33 = .ok (.iconst 0, 1) := by decide +kernel
theorem dX1_become_34 : decode cX1_become 34 = .ok (.aload_n 1, 1) := by decide +kernel
theorem dX1_become_35 : decode cX1_become 35 = .ok (.getfield 9, 3) := by decide +kernel
theorem dX1_become_38 : decode cX1_become 38 = .ok (.iconst 4, 1) := by decide +kernel
theorem dX1_become_39 : decode cX1_become 39 = .ok (.imul, 1) := by decide +kernel
theorem dX1_become_40 : decode cX1_become 40 = .ok (.invokestatic 19, 3) := by decide +kernel
theorem dX1_become_43 : decode cX1_become 43 = .ok (.aload_n 0, 1) := by decide +kernel
theorem dX1_become_44 : decode cX1_become 44 = .ok (.aload_n 1, 1) := by decide +kernel
theorem dX1_become_45 : decode cX1_become 45 = .ok (.getfield 9, 3) := by decide +kernel
theorem dX1_become_48 : decode cX1_become 48 = .ok (.putfield 9, 3) := by decide +kernel
theorem dX1_become_51 : decode cX1_become 51 = .ok (.return_, 1) := by decide +kernel
theorem dX1_add_0 : decode cX1_add 0 = .ok (.aload_n 0, 1) := by decide +kernel
theorem dX1_add_1 : decode cX1_add 1 = .ok (.getfield 9, 3) := by decide +kernel
theorem dX1_add_4 : decode cX1_add 4 = .ok (.sipush 1000, 3) := by decide +kernel
theorem dX1_add_7 : decode cX1_add 7 = .ok (.if_icmp .lt 5, 3) := by decide +kernel
theorem dX1_add_10 : decode cX1_add 10 = .ok (.iconst 0, 1) := by decide +kernel
theorem dX1_add_11 : decode cX1_add 11 = .ok (.ireturn, 1) := by decide +kernel
theorem dX1_add_12 : decode cX1_add 12 = .ok (.aload_n 0, 1) := by decide +kernel
theorem dX1_add_13 : decode cX1_add 13 = .ok (.getfield 9, 3) := by decide +kernel
theorem dX1_add_16 : decode cX1_add 16 = .ok (.iconst 4, 1) := by decide +kernel
theorem dX1_add_17 : decode cX1_add 17 = .ok (.imul, 1) := by decide +kernel
theorem dX1_add_18 : decode cX1_add 18 = .ok (.istore 8, 2) := by decide +kernel
theorem dX1_add_20 : decode cX1_add 20 = .ok (.iload 8, 2) := by decide +kernel
theorem dX1_add_22 : decode cX1_add 22 = .ok (.iconst 4, 1) := by decide +kernel
theorem dX1_add_23 : decode cX1_add 23 = .ok (.iadd, 1) := by decide +kernel
theorem dX1_add_24 : decode cX1_add 24 = .ok (.aload_n 0, 1) := by decide +kernel
theorem dX1_add_25 : decode cX1_add 25 = .ok (.getfield 15, 3) := by decide +kernel
theorem dX1_add_28 : decode cX1_add 28 = .ok (.arraylength, 1) := by decide +kernel
theorem dX1_add_29 : decode cX1_add 29 = .ok (.if_icmp .le 27, 3) := by decide +kernel
theorem dX1_add_32 : decode cX1_add 32 = .ok (.aload_n 0, 1) := by decide +kernel
theorem dX1_add_33 : decode cX1_add 33 = .ok (.aload_n 0, 1) := by decide +kernel
theorem dX1_add_34 : decode cX1_add 34 = .ok (.getfield 15, 3) := by decide +kernel
theorem dX1_add_37 : decode cX1_add 37 = .ok (.iconst 2, 1) := by decide +kernel
theorem dX1_add_38 : decode cX1_add 38 = .ok (.aload_n 0, 1) := by decide +kernel
theorem dX1_add_39 : decode cX1_add 39 = .ok (.getfield 15, 3) := by decide +kernel
theorem dX1_add_42 : decode cX1_add 42 = .ok (.arraylength, 1) := by decide +kernel
theorem dX1_add_43 : decode cX1_add 43 = .ok (.imul, 1) := by decide +kernel
theorem dX1_add_44 : decode cX1_add 44 = .ok (.sipush 4000, 3) := by decide +kernel
theorem dX1_add_47 : decode cX1_add 47 = .ok (.invokestatic 25, 3) := by decide +kernel
theorem dX1_add_50 : decode cX1_add 50 = .ok (.invokestatic 31, 3) := by decide +kernel
theorem dX1_add_53 : decode cX1_add 53 = .ok (.putfield 15, 3) := by decide +kernel
theorem dX1_add_56 : decode cX1_add 56 = .ok (.aload_n 0, 1) := by decide +kernel
theorem dX1_add_57 : decode cX1_add 57 = .ok (.getfield 15, 3) := by decide +kernel
theorem dX1_add_60 : decode cX1_add 60 = .ok (.iload 8, 2) := by decide +kernel
theorem dX1_add_62 : decode cX1_add 62 = .ok (.iload_n 1, 1) := by decide +kernel
theorem dX1_add_63 : decode cX1_add 63 = .ok (.i2l, 1) := by decide +kernel
theorem dX1_add_64 : decode cX1_add 64 = .ok (.lastore, 1) := by decide +kernel
theorem dX1_add_65 : decode cX1_add 65 = .ok (.aload_n 0, 1) := by decide +kernel
theorem dX1_add_66 : decode cX1_add 66 = .ok (.getfield 15, 3) := by decide +kernel
theorem dX1_add_69 : decode cX1_add 69 = .ok (.iload 8, 2) := by decide +kernel
theorem dX1_add_71 : decode cX1_add 71 = .ok (.iconst 1, 1) := by decide +kernel
theorem dX1_add_72 : decode cX1_add 72 = .ok (.iadd, 1) := by decide +kernel
theorem dX1_add_73 : decode cX1_add 73 = .ok (.lload_n 2, 1) := by decide +kernel
theorem dX1_add_74 : decode cX1_add 74 = .ok (.lastore, 1) := by decide +kernel
theorem dX1_add_75 : decode cX1_add 75 = .ok (.aload_n 0, 1) := by decide +kernel
theorem dX1_add_76 : decode cX1_add 76 = .ok (.getfield 15, 3) := by decide +kernel
theorem dX1_add_79 : decode cX1_add 79 = .ok (.iload 8, 2) := by decide +kernel
theorem dX1_add_81 : decode cX1_add 81 = .ok (.iconst 2, 1) := by decide +kernel
theorem dX1_add_82 : decode cX1_add 82 = .ok (.iadd, 1) := by decide +kernel
theorem dX1_add_83 : decode cX1_add 83 = .ok (.lload 4, 2) := by decide +kernel
theorem dX1_add_85 : decode cX1_add 85 = .ok (.lastore, 1) := by decide +kernel
theorem dX1_add_86 : decode cX1_add 86 = .ok (.aload_n 0, 1) := by decide +kernel
theorem dX1_add_87 : decode cX1_add 87 = .ok (.getfield 15, 3) := by decide +kernel
theorem dX1_add_90 : decode cX1_add 90 = .ok (.iload 8, 2) := by decide +kernel
theorem dX1_add_92 : decode cX1_add 92 = .ok (.iconst 3, 1) := by decide +kernel
theorem dX1_add_93 : decode cX1_add 93 = .ok (.iadd, 1) := by decide +kernel
theorem dX1_add_94 : decode cX1_add 94 = .ok (.lload 6, 2) := by decide +kernel
theorem dX1_add_96 : decode cX1_add 96 = .ok (.lastore, 1) := by decide +kernel
theorem dX1_add_97 : decode cX1_add 97 = .ok (.aload_n 0, 1) := by decide +kernel
theorem dX1_add_98 : decode cX1_add 98 = .ok (.dup, 1) := by decide +kernel
theorem dX1_add_99 : decode cX1_add 99 = .ok (.getfield 9, 3) := by decide +kernel
theorem dX1_add_102 : decode cX1_add 102 = .ok (.iconst 1, 1) := by decide +kernel
theorem dX1_add_103 : decode cX1_add 103 = .ok (.iadd, 1) := by decide +kernel
theorem dX1_add_104 : decode cX1_add 104 = .ok (.putfield 9, 3) := by decide +kernel
theorem dX1_add_107 : decode cX1_add 107 = .ok (.iconst 1, 1) := by decide +kernel
theorem dX1_add_108 : decode cX1_add 108 = .ok (.ireturn, 1) := by decide +kernel
theorem dX1_get_0 : decode cX1_get 0 = .ok (.iload_n 1, 1) := by decide +kernel
theorem dX1_get_1 : decode cX1_get 1 = .ok (.ifCond .lt 33, 3) := by decide +kernel
theorem dX1_get_4 : decode cX1_get 4 = .ok (.iload_n 1, 1) := by decide +kernel
theorem dX1_get_5 : decode cX1_get 5 = .ok (.aload_n 0, 1) := by decide +kernel
theorem dX1_get_6 : decode cX1_get 6 = .ok (.getfield 9, 3) := by decide +kernel
theorem dX1_get_9 : decode cX1_get 9 = .ok (.if_icmp .ge 25, 3) := by decide +kernel
theorem dX1_get_12 : decode cX1_get 12 = .ok (.iload_n 2, 1) := by decide +kernel
theorem dX1_get_13 : decode cX1_get 13 = .ok (.ifCond .lt 21, 3) := by decide +kernel
theorem dX1_get_16 : decode cX1_get 16 = .ok (.iload_n 2, 1) := by decide +kernel
theorem dX1_get_17 : decode cX1_get 17 = .ok (.iconst 4, 1) := by decide +kernel
theorem dX1_get_18 : decode cX1_get 18 = .ok (.if_icmp .ge 16, 3) := by decide +kernel
theorem dX1_get_21 : decode cX1_get 21 = .ok (.aload_n 0, 1) := by decide +kernel
theorem dX1_get_22 : decode cX1_get 22 = .ok (.getfield 15, 3) := by decide +kernel
theorem dX1_get_25 : decode cX1_get 25 = .ok (.iload_n 1, 1) := by decide +kernel
theorem dX1_get_26 : decode cX1_get 26 = .ok (.iconst 4, 1) := by decide +kernel
theorem dX1_get_27 : decode cX1_get 27 = .ok (.imul, 1) := by decide +kernel
theorem dX1_get_28 : decode cX1_get 28 = .ok (.iload_n 2, 1) := by decide +kernel
theorem dX1_get_29 : decode cX1_get 29 = .ok (.iadd, 1) := by decide +kernel
theorem dX1_get_30 : decode cX1_get 30 = .ok (.laload, 1) := by decide +kernel
theorem dX1_get_31 : decode cX1_get 31 = .ok (.goto 4, 3) := by decide +kernel
theorem dX1_get_34 : decode cX1_get 34 = .ok (.lconst 0, 1) := by decide +kernel
theorem dX1_get_35 : decode cX1_get 35 = .ok (.lreturn, 1) := by decide +kernel
theorem dX2_init_0 : decode cX2_init 0 = .ok (.aload_n 0, 1) := by decide +kernel
theorem dX2_init_1 : decode cX2_init 1 = .ok (.invokespecial 3, 3) := by decide +kernel
theorem dX2_init_4 : decode cX2_init 4 = .ok (.aload_n 0, 1) := by decide +kernel
theorem dX2_init_5 : decode cX2_init 5 = .ok (.iconst (-1), 1) := by decide +kernel
theorem dX2_init_6 : decode cX2_init 6 = .ok (.putfield 9, 3) := by decide +kernel
theorem dX2_init_9 : decode cX2_init 9 = .ok (.aload_n 0, 1) := by decide +kernel
theorem dX2_init_10 : decode cX2_init 10 = .ok (.bipush 32, 2) := by decide +kernel
theorem dX2_init_12 : decode cX2_init 12 = .ok (.newarray .byte, 2) := by decide +kernel
theorem dX2_init_14 : decode cX2_init 14 = .ok (.putfield 15, 3) := by decide +kernel
theorem dX2_init_17 : decode cX2_init 17 = .ok (.return_, 1) := by decide +kernel
theorem dX2_become_0 : decode cX2_become 0 = .ok (.aload_n 0, 1) := by decide +kernel
theorem dX2_become_1 : decode cX2_become 1 = .ok (.getfield 15, 3) := by decide +kernel
theorem dX2_become_4 : decode cX2_become 4 = .ok (.arraylength, 1) := by decide +kernel
theorem dX2_become_5 : decode cX2_become 5 = .ok (.aload_n 1, 1) := by decide +kernel
theorem dX2_become_6 : decode cX2_become 6 = .ok (.getfield 15, 3) := by decide +kernel
theorem dX2_become_9 : decode cX2_become 9 = .ok (.arraylength, 1) := by decide +kernel
theorem dX2_become_10 : decode cX2_become 10 = .ok (.if_icmp .ge 14, 3) := by decide +kernel
theorem dX2_become_13 : decode cX2_become 13 = .ok (.aload_n 0, 1) := by decide +kernel
theorem dX2_become_14 : decode cX2_become 14 = .ok (.aload_n 1, 1) := by decide +kernel
theorem dX2_become_15 : decode cX2_become 15 = .ok (.getfield 15, 3) := by decide +kernel
theorem dX2_become_18 : decode cX2_become 18 = .ok (.arraylength, 1) := by decide +kernel
theorem dX2_become_19 : decode cX2_become 19 = .ok (.newarray .byte, 2) := by decide +kernel
theorem dX2_become_21 : decode cX2_become 21 = .ok (.putfield 15, 3) := by decide +kernel
theorem dX2_become_24 : decode cX2_become 24 = .ok (.aload_n 0, 1) := by decide +kernel
theorem dX2_become_25 : decode cX2_become 25 = .ok (.aload_n 1, 1) := by decide +kernel
theorem dX2_become_26 : decode cX2_become 26 = .ok (.getfield 9, 3) := by decide +kernel
theorem dX2_become_29 : decode cX2_become 29 = .ok (.putfield 9, 3) := by decide +kernel
theorem dX2_become_32 : decode cX2_become 32 = .ok (.aload_n 1, 1) := by decide +kernel
theorem dX2_become_33 : decode cX2_become 33 = .ok (.getfield 15, 3) := by decide +kernel
theorem dX2_become_36 : decode cX2_become 36 = .ok (.iconst 0, 1) := by decide +kernel
theorem dX2_become_37 : decode cX2_become 37 = .ok (.aload_n 0, 1) := by decide +kernel
theorem dX2_become_38 : decode cX2_become 38 = .ok (.getfield 15, 3) := by decide +kernel
theorem dX2_become_41 : decode cX2_become 41 = .ok (.iconst 0, 1) := by decide +kernel
theorem dX2_become_42 : decode cX2_become 42 = .ok (.iconst 0, 1) := by decide +kernel
theorem dX2_become_43 : decode cX2_become 43 = .ok (.aload_n 0, 1) := by decide +kernel
theorem dX2_become_44 : decode cX2_become 44 = .ok (.getfield 9, 3) := by decide +kernel
theorem dX2_become_47 : decode cX2_become 47 = .ok (.invokestatic 19, 3) := by decide +kernel
theorem dX2_become_50 : decode cX2_become 50 = .ok (.invokestatic 25, 3) := by decide +kernel
theorem dX2_become_53 : decode cX2_become 53 = .ok (.return_, 1) := by decide +kernel
theorem dX2_length_0 : decode cX2_length 0 = .ok (.iconst 0, 1) := by decide +kernel
theorem dX2_length_1 : decode cX2_length 1 = .ok (.aload_n 0, 1) := by decide +kernel
theorem dX2_length_2 : decode cX2_length 2 = .ok (.getfield 9, 3) := by decide +kernel
theorem dX2_length_5 : decode cX2_length 5 = .ok (.invokestatic 19, 3) := by decide +kernel
theorem dX2_length_8 : decode cX2_length 8 = .ok (.ireturn, 1) := by decide +kernel
theorem dX2_byteAt_0 : decode cX2_byteAt 0 = .ok (.iload_n 1, 1) := by decide +kernel
theorem dX2_byteAt_1 : decode cX2_byteAt 1 = .ok (.ifCond .lt 20, 3) := by decide +kernel
theorem dX2_byteAt_4 : decode cX2_byteAt 4 = .ok (.iload_n 1, 1) := by decide +kernel
theorem dX2_byteAt_5 : decode cX2_byteAt 5 = .ok (.aload_n 0, 1) := by decide +kernel
theorem dX2_byteAt_6 : decode cX2_byteAt 6 = .ok (.getfield 9, 3) := by decide +kernel
theorem dX2_byteAt_9 : decode cX2_byteAt 9 = .ok (.if_icmp .ge 12, 3) := by decide +kernel
theorem dX2_byteAt_12 : decode cX2_byteAt 12 = .ok (.aload_n 0, 1) := by decide +kernel
theorem dX2_byteAt_13 : decode cX2_byteAt 13 = .ok (.getfield 15, 3) := by decide +kernel
theorem dX2_byteAt_16 : decode cX2_byteAt 16 = .ok (.iload_n 1, 1) := by decide +kernel
theorem dX2_byteAt_17 : decode cX2_byteAt 17 = .ok (.baload, 1) := by decide +kernel
theorem dX2_byteAt_18 : decode cX2_byteAt 18 = .ok (.goto 4, 3) := by decide +kernel
theorem dX2_byteAt_21 : decode cX2_byteAt 21 = .ok (.iconst 0, 1) := by decide +kernel
theorem dX2_byteAt_22 : decode cX2_byteAt 22 = .ok (.ireturn, 1) := by decide +kernel
theorem dX2_extend_0 : decode cX2_extend 0 = .ok (.aload_n 0, 1) := by decide +kernel
theorem dX2_extend_1 : decode cX2_extend 1 = .ok (.invokevirtual 31, 3) := by decide +kernel
theorem dX2_extend_4 : decode cX2_extend 4 = .ok (.istore 4, 2) := by decide +kernel
theorem dX2_extend_6 : decode cX2_extend 6 = .ok (.iload_n 3, 1) := by decide +kernel
theorem dX2_extend_7 : decode cX2_extend 7 = .ok (.ifCond .lt 19, 3) := by decide +kernel
theorem dX2_extend_10 : decode cX2_extend 10 = .ok (.iload_n 3, 1) := by decide +kernel
theorem dX2_extend_11 : decode cX2_extend 11 = .ok (.bipush 8, 2) := by decide +kernel
theorem dX2_extend_13 : decode cX2_extend 13 = .ok (.if_icmp .gt 13, 3) := by decide +kernel
theorem dX2_extend_16 : decode cX2_extend 16 = .ok (.iload 4, 2) := by decide +kernel
theorem dX2_extend_18 : decode cX2_extend 18 = .ok (.iload_n 3, 1) := by decide +kernel
theorem dX2_extend_19 : decode cX2_extend 19 = .ok (.iadd, 1) := by decide +kernel
theorem dX2_extend_20 : decode cX2_extend 20 = .ok (.sipush 1000, 3) := by decide +kernel
theorem dX2_extend_23 : decode cX2_extend 23 = .ok (.if_icmp .le 5, 3) := by decide +kernel
theorem dX2_extend_26 : decode cX2_extend 26 = .ok (.iconst (-1), 1) := by decide +kernel
theorem dX2_extend_27 : decode cX2_extend 27 = .ok (.ireturn, 1) := by decide +kernel
theorem dX2_extend_28 : decode cX2_extend 28 = .ok (.iload 4, 2) := by decide +kernel
theorem dX2_extend_30 : decode cX2_extend 30 = .ok (.iload_n 3, 1) := by decide +kernel
theorem dX2_extend_31 : decode cX2_extend 31 = .ok (.iadd, 1) := by decide +kernel
theorem dX2_extend_32 : decode cX2_extend 32 = .ok (.aload_n 0, 1) := by decide +kernel
theorem dX2_extend_33 : decode cX2_extend 33 = .ok (.getfield 15, 3) := by decide +kernel
theorem dX2_extend_36 : decode cX2_extend 36 = .ok (.arraylength, 1) := by decide +kernel
theorem dX2_extend_37 : decode cX2_extend 37 = .ok (.if_icmp .le 27, 3) := by decide +kernel
theorem dX2_extend_40 : decode cX2_extend 40 = .ok (.aload_n 0, 1) := by decide +kernel
theorem dX2_extend_41 : decode cX2_extend 41 = .ok (.aload_n 0, 1) := by decide +kernel
theorem dX2_extend_42 : decode cX2_extend 42 = .ok (.getfield 15, 3) := by decide +kernel
theorem dX2_extend_45 : decode cX2_extend 45 = .ok (.iconst 2, 1) := by decide +kernel
theorem dX2_extend_46 : decode cX2_extend 46 = .ok (.aload_n 0, 1) := by decide +kernel
theorem dX2_extend_47 : decode cX2_extend 47 = .ok (.getfield 15, 3) := by decide +kernel
theorem dX2_extend_50 : decode cX2_extend 50 = .ok (.arraylength, 1) := by decide +kernel
theorem dX2_extend_51 : decode cX2_extend 51 = .ok (.imul, 1) := by decide +kernel
theorem dX2_extend_52 : decode cX2_extend 52 = .ok (.sipush 1000, 3) := by decide +kernel
theorem dX2_extend_55 : decode cX2_extend 55 = .ok (.invokestatic 35, 3) := by decide +kernel
theorem dX2_extend_58 : decode cX2_extend 58 = .ok (.invokestatic 38, 3) := by decide +kernel
theorem dX2_extend_61 : decode cX2_extend 61 = .ok (.putfield 15, 3) := by decide +kernel
theorem dX2_extend_64 : decode cX2_extend 64 = .ok (.iconst 0, 1) := by decide +kernel
theorem dX2_extend_65 : decode cX2_extend 65 = .ok (.istore 5, 2) := by decide +kernel
theorem dX2_extend_67 : decode cX2_extend 67 = .ok (.iload 5, 2) := by decide +kernel
theorem dX2_extend_69 : decode cX2_extend 69 = .ok (.iload_n 3, 1) := by decide +kernel
theorem dX2_extend_70 : decode cX2_extend 70 = .ok (.if_icmp .ge 31, 3) := by decide +kernel
theorem dX2_extend_73 : decode cX2_extend 73 = .ok (.aload_n 0, 1) := by decide +kernel
theorem dX2_extend_74 : decode cX2_extend 74 = .ok (.getfield 15, 3) := by decide +kernel
theorem dX2_extend_77 : decode cX2_extend 77 = .ok (.iload 4, 2) := by decide +kernel
theorem dX2_extend_79 : decode cX2_extend 79 = .ok (.iload 5, 2) := by decide +kernel
theorem dX2_extend_81 : decode cX2_extend 81 = .ok (.iadd, 1) := by decide +kernel
theorem dX2_extend_82 : decode cX2_extend 82 = .ok (.lload_n 1, 1) := by decide +kernel
theorem dX2_extend_83 : decode cX2_extend 83 = .ok (.bipush 56, 2) := by decide +kernel
theorem dX2_extend_85 : decode cX2_extend 85 = .ok (.bipush 8, 2) := by decide +kernel
theorem dX2_extend_87 : decode cX2_extend 87 = .ok (.iload 5, 2) := by decide +kernel
theorem dX2_extend_89 : decode cX2_extend 89 = .ok (.imul, 1) := by decide +kernel
theorem dX2_extend_90 : decode cX2_extend 90 = .ok (.isub, 1) := by decide +kernel
theorem dX2_extend_91 : decode cX2_extend 91 = .ok (.lushr, 1) := by decide +kernel
theorem dX2_extend_92 : decode cX2_extend 92 = .ok (.l2i, 1) := by decide +kernel
theorem dX2_extend_93 : decode cX2_extend 93 = .ok (.i2b, 1) := by decide +kernel
theorem dX2_extend_94 : decode cX2_extend 94 = .ok (.bastore, 1) := by decide +kernel
theorem dX2_extend_95 : decode cX2_extend 95 = .ok (.iinc 5 1, 3) := by decide +kernel
theorem dX2_extend_98 : decode cX2_extend 98 = .ok (.goto (-31), 3) := by decide +kernel
theorem dX2_extend_101 : decode cX2_extend 101 = .ok (.aload_n 0, 1) := by decide +kernel
theorem dX2_extend_102 : decode cX2_extend 102 = .ok (.iload 4, 2) := by decide +kernel
theorem dX2_extend_104 : decode cX2_extend 104 = .ok (.iload_n 3, 1) := by decide +kernel
theorem dX2_extend_105 : decode cX2_extend 105 = .ok (.iadd, 1) := by decide +kernel
theorem dX2_extend_106 : decode cX2_extend 106 = .ok (.putfield 9, 3) := by decide +kernel
theorem dX2_extend_109 : decode cX2_extend 109 = .ok (.aload_n 0, 1) := by decide +kernel
theorem dX2_extend_110 : decode cX2_extend 110 = .ok (.getfield 9, 3) := by decide +kernel
theorem dX2_extend_113 : decode cX2_extend 113 = .ok (.ireturn, 1) := by decide +kernel
theorem dX3_init_0 : decode cX3_init 0 = .ok (.aload_n 0, 1) := by decide +kernel
theorem dX3_init_1 : decode cX3_init 1 = .ok (.invokespecial 3, 3) := by decide +kernel
theorem dX3_init_4 : decode cX3_init 4 = .ok (.aload_n 0, 1) := by decide +kernel
theorem dX3_init_5 : decode cX3_init 5 = .ok (.iconst 0, 1) := by decide +kernel
theorem dX3_init_6 : decode cX3_init 6 = .ok (.putfield 9, 3) := by decide +kernel
theorem dX3_init_9 : decode cX3_init 9 = .ok (.aload_n 0, 1) := by decide +kernel
theorem dX3_init_10 : decode cX3_init 10 = .ok (.sipush 320, 3) := by decide +kernel
theorem dX3_init_13 : decode cX3_init 13 = .ok (.newarray .int, 2) := by decide +kernel
theorem dX3_init_15 : decode cX3_init 15 = .ok (.putfield 15, 3) := by decide +kernel
theorem dX3_init_18 : decode cX3_init 18 = .ok (.return_, 1) := by decide +kernel
theorem dX3_become_0 : decode cX3_become 0 = .ok (.aload_n 0, 1) := by decide +kernel
theorem dX3_become_1 : decode cX3_become 1 = .ok (.getfield 15, 3) := by decide +kernel
theorem dX3_become_4 : decode cX3_become 4 = .ok (.arraylength, 1) := by decide +kernel
theorem dX3_become_5 : decode cX3_become 5 = .ok (.aload_n 1, 1) := by decide +kernel
theorem dX3_become_6 : decode cX3_become 6 = .ok (.getfield 15, 3) := by decide +kernel
theorem dX3_become_9 : decode cX3_become 9 = .ok (.arraylength, 1) := by decide +kernel
theorem dX3_become_10 : decode cX3_become 10 = .ok (.if_icmp .ge 14, 3) := by decide +kernel
theorem dX3_become_13 : decode cX3_become 13 = .ok (.aload_n 0, 1) := by decide +kernel
theorem dX3_become_14 : decode cX3_become 14 = .ok (.aload_n 1, 1) := by decide +kernel
theorem dX3_become_15 : decode cX3_become 15 = .ok (.getfield 15, 3) := by decide +kernel
theorem dX3_become_18 : decode cX3_become 18 = .ok (.arraylength, 1) := by decide +kernel
theorem dX3_become_19 : decode cX3_become 19 = .ok (.newarray .int, 2) := by decide +kernel
theorem dX3_become_21 : decode cX3_become 21 = .ok (.putfield 15, 3) := by decide +kernel
theorem dX3_become_24 : decode cX3_become 24 = .ok (.aload_n 1, 1) := by decide +kernel
theorem dX3_become_25 : decode cX3_become 25 = .ok (.getfield 15, 3) := by decide +kernel
theorem dX3_become_28 : decode cX3_become 28 = .ok (.iconst 0, 1) := by decide +kernel
theorem dX3_become_29 : decode cX3_become 29 = .ok (.aload_n 0, 1) := by decide +kernel
theorem dX3_become_30 : decode cX3_become 30 = .ok (.getfield 15, 3) := by decide +kernel
theorem dX3_become_33 : decode cX3_become 33 = .ok (.iconst 0, 1) := by decide +kernel
theorem dX3_become_34 : decode cX3_become 34 = .ok (.aload_n 1, 1) := by decide +kernel
theorem dX3_become_35 : decode cX3_become 35 = .ok (.getfield 9, 3) := by decide +kernel
theorem dX3_become_38 : decode cX3_become 38 = .ok (.iconst 5, 1) := by decide +kernel
theorem dX3_become_39 : decode cX3_become 39 = .ok (.imul, 1) := by decide +kernel
theorem dX3_become_40 : decode cX3_become 40 = .ok (.invokestatic 19, 3) := by decide +kernel
theorem dX3_become_43 : decode cX3_become 43 = .ok (.aload_n 0, 1) := by decide +kernel
theorem dX3_become_44 : decode cX3_become 44 = .ok (.aload_n 1, 1) := by decide +kernel
theorem dX3_become_45 : decode cX3_become 45 = .ok (.getfield 9, 3) := by decide +kernel
theorem dX3_become_48 : decode cX3_become 48 = .ok (.putfield 9, 3) := by decide +kernel
theorem dX3_become_51 : decode cX3_become 51 = .ok (.return_, 1) := by decide +kernel
theorem dX3_haveRoom_0 : decode cX3_haveRoom 0 = .ok (.sipush 8000, 3) := by decide +kernel
theorem dX3_haveRoom_3 : decode cX3_haveRoom 3 = .ok (.aload_n 0, 1) := by decide +kernel
theorem dX3_haveRoom_4 : decode cX3_haveRoom 4 = .ok (.getfield 9, 3) := by decide +kernel
theorem dX3_haveRoom_7 : decode cX3_haveRoom 7 = .ok (.isub, 1) := by decide +kernel
theorem dX3_haveRoom_8 : decode cX3_haveRoom 8 = .ok (.iconst 4, 1) := by decide +kernel
theorem dX3_haveRoom_9 : decode cX3_haveRoom 9 = .ok (.if_icmp .lt 7, 3) := by decide +kernel
theorem dX3_haveRoom_12 : decode cX3_haveRoom 12 = .ok (.iconst 1, 1) := by decide +kernel
theorem dX3_haveRoom_13 : decode cX3_haveRoom 13 = .ok (.goto 4, 3) := by decide +kernel
theorem dX3_haveRoom_16 : decode cX3_haveRoom 16 = .ok (.iconst 0, 1) := by decide +kernel
theorem dX3_haveRoom_17 : decode cX3_haveRoom 17 = .ok (.ireturn, 1) := by decide +kernel
theorem dX3_has_0 : decode cX3_has 0 = .ok (.iload_n 1, 1) := by decide +kernel
theorem dX3_has_1 : decode cX3_has 1 = .ok (.ifCond .lt 24, 3) := by decide +kernel
theorem dX3_has_4 : decode cX3_has 4 = .ok (.iload_n 1, 1) := by decide +kernel
theorem dX3_has_5 : decode cX3_has 5 = .ok (.aload_n 0, 1) := by decide +kernel
theorem dX3_has_6 : decode cX3_has 6 = .ok (.getfield 9, 3) := by decide +kernel
theorem dX3_has_9 : decode cX3_has 9 = .ok (.if_icmp .ge 16, 3) := by decide +kernel
theorem dX3_has_12 : decode cX3_has 12 = .ok (.iload_n 2, 1) := by decide +kernel
theorem dX3_has_13 : decode cX3_has 13 = .ok (.ifCond .lt 12, 3) := by decide +kernel
theorem dX3_has_16 : decode cX3_has 16 = .ok (.iload_n 2, 1) := by decide +kernel
theorem dX3_has_17 : decode cX3_has 17 = .ok (.iconst 5, 1) := by decide +kernel
theorem dX3_has_18 : decode cX3_has 18 = .ok (.if_icmp .ge 7, 3) := by decide +kernel
theorem dX3_has_21 : decode cX3_has 21 = .ok (.iconst 1, 1) := by decide +kernel
theorem dX3_has_22 : decode cX3_has 22 = .ok (.goto 4, 3) := by decide +kernel
theorem dX3_has_25 : decode cX3_has 25 = .ok (.iconst 0, 1) := by decide +kernel
theorem dX3_has_26 : decode cX3_has 26 = .ok (.ireturn, 1) := by decide +kernel
theorem dX3_get_0 : decode cX3_get 0 = .ok (.aload_n 0, 1) := by decide +kernel
theorem dX3_get_1 : decode cX3_get 1 = .ok (.iload_n 1, 1) := by decide +kernel
theorem dX3_get_2 : decode cX3_get 2 = .ok (.iload_n 2, 1) := by decide +kernel
theorem dX3_get_3 : decode cX3_get 3 = .ok (.invokevirtual 25, 3) := by decide +kernel
theorem dX3_get_6 : decode cX3_get 6 = .ok (.ifCond .eq 16, 3) := by decide +kernel
theorem dX3_get_9 : decode cX3_get 9 = .ok (.aload_n 0, 1) := by decide +kernel
theorem dX3_get_10 : decode cX3_get 10 = .ok (.getfield 15, 3) := by decide +kernel
theorem dX3_get_13 : decode cX3_get 13 = .ok (.iload_n 1, 1) := by decide +kernel
theorem dX3_get_14 : decode cX3_get 14 = .ok (.iconst 5, 1) := by decide +kernel
theorem dX3_get_15 : decode cX3_get 15 = .ok (.imul, 1) := by decide +kernel
theorem dX3_get_16 : decode cX3_get 16 = .ok (.iload_n 2, 1) := by decide +kernel
theorem dX3_get_17 : decode cX3_get 17 = .ok (.iadd, 1) := by decide +kernel
theorem dX3_get_18 : decode cX3_get 18 = .ok (.iaload, 1) := by decide +kernel
theorem dX3_get_19 : decode cX3_get 19 = .ok (.goto 4, 3) := by decide +kernel
theorem dX3_get_22 : decode cX3_get 22 = .ok (.iconst (-1), 1) := by decide +kernel
theorem dX3_get_23 : decode cX3_get 23 = .ok (.ireturn, 1) := by decide +kernel
theorem dX3_grow_0 : decode cX3_grow 0 = .ok (.aload_n 0, 1) := by decide +kernel
theorem dX3_grow_1 : decode cX3_grow 1 = .ok (.iload_n 1, 1) := by decide +kernel
theorem dX3_grow_2 : decode cX3_grow 2 = .ok (.iload_n 2, 1) := by decide +kernel
theorem dX3_grow_3 : decode cX3_grow 3 = .ok (.invokevirtual 25, 3) := by decide +kernel
theorem dX3_grow_6 : decode cX3_grow 6 = .ok (.ifCond .eq 17, 3) := by decide +kernel
theorem dX3_grow_9 : decode cX3_grow 9 = .ok (.aload_n 0, 1) := by decide +kernel
theorem dX3_grow_10 : decode cX3_grow 10 = .ok (.getfield 15, 3) := by decide +kernel
theorem dX3_grow_13 : decode cX3_grow 13 = .ok (.iload_n 1, 1) := by decide +kernel
theorem dX3_grow_14 : decode cX3_grow 14 = .ok (.iconst 5, 1) := by decide +kernel
theorem dX3_grow_15 : decode cX3_grow 15 = .ok (.imul, 1) := by decide +kernel
theorem dX3_grow_16 : decode cX3_grow 16 = .ok (.iload_n 2, 1) := by decide +kernel
theorem dX3_grow_17 : decode cX3_grow 17 = .ok (.iadd, 1) := by decide +kernel
theorem dX3_grow_18 : decode cX3_grow 18 = .ok (.dup2, 1) := by decide +kernel
theorem dX3_grow_19 : decode cX3_grow 19 = .ok (.iaload, 1) := by decide +kernel
theorem dX3_grow_20 : decode cX3_grow 20 = .ok (.iload_n 3, 1) := by decide +kernel
theorem dX3_grow_21 : decode cX3_grow 21 = .ok (.iadd, 1) := by decide +kernel
theorem dX3_grow_22 : decode cX3_grow 22 = .ok (.iastore, 1) := by decide +kernel
theorem dX3_grow_23 : decode cX3_grow 23 = .ok (.return_, 1) := by decide +kernel
theorem dX3_add_0 : decode cX3_add 0 = .ok (.aload_n 0, 1) := by decide +kernel
theorem dX3_add_1 : decode cX3_add 1 = .ok (.getfield 9, 3) := by decide +kernel
theorem dX3_add_4 : decode cX3_add 4 = .ok (.sipush 8000, 3) := by decide +kernel
theorem dX3_add_7 : decode cX3_add 7 = .ok (.if_icmp .lt 4, 3) := by decide +kernel
theorem dX3_add_10 : decode cX3_add 10 = .ok (.return_, 1) := by decide +kernel
theorem dX3_add_11 : decode cX3_add 11 = .ok (.aload_n 0, 1) := by decide +kernel
theorem dX3_add_12 : decode cX3_add 12 = .ok (.getfield 9, 3) := by decide +kernel
theorem dX3_add_15 : decode cX3_add 15 = .ok (.iconst 5, 1) := by decide +kernel
theorem dX3_add_16 : decode cX3_add 16 = .ok (.imul, 1) := by decide +kernel
theorem dX3_add_17 : decode cX3_add 17 = .ok (.istore 6, 2) := by decide +kernel
theorem dX3_add_19 : decode cX3_add 19 = .ok (.iload 6, 2) := by decide +kernel
theorem dX3_add_21 : decode cX3_add 21 = .ok (.iconst 5, 1) := by decide +kernel
theorem dX3_add_22 : decode cX3_add 22 = .ok (.iadd, 1) := by decide +kernel
theorem dX3_add_23 : decode cX3_add 23 = .ok (.aload_n 0, 1) := by decide +kernel
theorem dX3_add_24 : decode cX3_add 24 = .ok (.getfield 15, 3) := by decide +kernel
theorem dX3_add_27 : decode cX3_add 27 = .ok (.arraylength, 1) := by decide +kernel
theorem dX3_add_28 : decode cX3_add 28 = .ok (.if_icmp .le 26, 3) := by decide +kernel
theorem dX3_add_31 : decode cX3_add 31 = .ok (.aload_n 0, 1) := by decide +kernel
theorem dX3_add_32 : decode cX3_add 32 = .ok (.aload_n 0, 1) := by decide +kernel
theorem dX3_add_33 : decode cX3_add 33 = .ok (.getfield 15, 3) := by decide +kernel
theorem dX3_add_36 : decode cX3_add 36 = .ok (.iconst 2, 1) := by decide +kernel
theorem dX3_add_37 : decode cX3_add 37 = .ok (.aload_n 0, 1) := by decide +kernel
theorem dX3_add_38 : decode cX3_add 38 = .ok (.getfield 15, 3) := by decide +kernel
theorem dX3_add_41 : decode cX3_add 41 = .ok (.arraylength, 1) := by decide +kernel
theorem dX3_add_42 : decode cX3_add 42 = .ok (.imul, 1) := by decide +kernel
theorem dX3_add_43 : decode cX3_add 43 = .ok (.ldc 29, 2) := by decide +kernel
theorem dX3_add_45 : decode cX3_add 45 = .ok (.invokestatic 30, 3) := by decide +kernel
theorem dX3_add_48 : decode cX3_add 48 = .ok (.invokestatic 36, 3) := by decide +kernel
theorem dX3_add_51 : decode cX3_add 51 = .ok (.putfield 15, 3) := by decide +kernel
theorem dX3_add_54 : decode cX3_add 54 = .ok (.aload_n 0, 1) := by decide +kernel
theorem dX3_add_55 : decode cX3_add 55 = .ok (.getfield 15, 3) := by decide +kernel
theorem dX3_add_58 : decode cX3_add 58 = .ok (.iload 6, 2) := by decide +kernel
theorem dX3_add_60 : decode cX3_add 60 = .ok (.iload_n 1, 1) := by decide +kernel
theorem dX3_add_61 : decode cX3_add 61 = .ok (.iastore, 1) := by decide +kernel
theorem dX3_add_62 : decode cX3_add 62 = .ok (.aload_n 0, 1) := by decide +kernel
theorem dX3_add_63 : decode cX3_add 63 = .ok (.getfield 15, 3) := by decide +kernel
theorem dX3_add_66 : decode cX3_add 66 = .ok (.iload 6, 2) := by decide +kernel
theorem dX3_add_68 : decode cX3_add 68 = .ok (.iconst 1, 1) := by decide +kernel
theorem dX3_add_69 : decode cX3_add 69 = .ok (.iadd, 1) := by decide +kernel
theorem dX3_add_70 : decode cX3_add 70 = .ok (.iload_n 2, 1) := by decide +kernel
theorem dX3_add_71 : decode cX3_add 71 = .ok (.iastore, 1) := by decide +kernel
theorem dX3_add_72 : decode cX3_add 72 = .ok (.aload_n 0, 1) := by decide +kernel
theorem dX3_add_73 : decode cX3_add 73 = .ok (.getfield 15, 3) := by decide +kernel
theorem dX3_add_76 : decode cX3_add 76 = .ok (.iload 6, 2) := by decide +kernel
theorem dX3_add_78 : decode cX3_add 78 = .ok (.iconst 2, 1) := by decide +kernel
theorem dX3_add_79 : decode cX3_add 79 = .ok (.iadd, 1) := by decide +kernel
theorem dX3_add_80 : decode cX3_add 80 = .ok (.iload_n 3, 1) := by decide +kernel
theorem dX3_add_81 : decode cX3_add 81 = .ok (.iastore, 1) := by decide +kernel
theorem dX3_add_82 : decode cX3_add 82 = .ok (.aload_n 0, 1) := by decide +kernel
theorem dX3_add_83 : decode cX3_add 83 = .ok (.getfield 15, 3) := by decide +kernel
theorem dX3_add_86 : decode cX3_add 86 = .ok (.iload 6, 2) := by decide +kernel
theorem dX3_add_88 : decode cX3_add 88 = .ok (.iconst 3, 1) := by decide +kernel
theorem dX3_add_89 : decode cX3_add 89 = .ok (.iadd, 1) := by decide +kernel
theorem dX3_add_90 : decode cX3_add 90 = .ok (.iload 4, 2) := by decide +kernel
theorem dX3_add_92 : decode cX3_add 92 = .ok (.iastore, 1) := by decide +kernel
theorem dX3_add_93 : decode cX3_add 93 = .ok (.aload_n 0, 1) := by decide +kernel
theorem dX3_add_94 : decode cX3_add 94 = .ok (.getfield 15, 3) := by decide +kernel
theorem dX3_add_97 : decode cX3_add 97 = .ok (.iload 6, 2) := by decide +kernel
theorem dX3_add_99 : decode cX3_add 99 = .ok (.iconst 4, 1) := by decide +kernel
theorem dX3_add_100 : decode cX3_add 100 = .ok (.iadd, 1) := by decide +kernel
theorem dX3_add_101 : decode cX3_add 101 = .ok (.iload 5, 2) := by decide +kernel
theorem dX3_add_103 : decode cX3_add 103 = .ok (.iastore, 1) := by decide +kernel
theorem dX3_add_104 : decode cX3_add 104 = .ok (.aload_n 0, 1) := by decide +kernel
theorem dX3_add_105 : decode cX3_add 105 = .ok (.dup, 1) := by decide +kernel
theorem dX3_add_106 : decode cX3_add 106 = .ok (.getfield 9, 3) := by decide +kernel
theorem dX3_add_109 : decode cX3_add 109 = .ok (.iconst 1, 1) := by decide +kernel
theorem dX3_add_110 : decode cX3_add 110 = .ok (.iadd, 1) := by decide +kernel
theorem dX3_add_111 : decode cX3_add 111 = .ok (.putfield 9, 3) := by decide +kernel
theorem dX3_add_114 : decode cX3_add 114 = .ok (.return_, 1) := by decide +kernel
theorem dX3_firstUnlike_0 : decode cX3_firstUnlike 0 = .ok (.aload_n 0, 1) := by decide +kernel
theorem dX3_firstUnlike_1 : decode cX3_firstUnlike 1 = .ok (.getfield 9, 3) := by decide +kernel
theorem dX3_firstUnlike_4 : decode cX3_firstUnlike 4 = .ok (.aload_n 1, 1) := by decide +kernel
theorem dX3_firstUnlike_5 : decode cX3_firstUnlike 5 = .ok (.getfield 9, 3) := by decide +kernel
theorem dX3_firstUnlike_8 : decode cX3_firstUnlike 8 = .ok (.invokestatic 30, 3) := by decide +kernel
theorem dX3_firstUnlike_11 : decode cX3_firstUnlike 11 = .ok (.istore_n 2, 1) := by decide +kernel
theorem dX3_firstUnlike_12 : decode cX3_firstUnlike 12 = .ok (.iconst 0, 1) := by decide +kernel
theorem dX3_firstUnlike_13 : decode cX3_firstUnlike 13 = .ok (.istore_n 3, 1) := by decide +kernel
theorem dX3_firstUnlike_14 : decode cX3_firstUnlike 14 = .ok (.iload_n 3, 1) := by decide +kernel
theorem dX3_firstUnlike_15 : decode cX3_firstUnlike 15 = .ok (.iload_n 2, 1) := by decide +kernel
theorem dX3_firstUnlike_16 : decode cX3_firstUnlike 16 = .ok (.iconst 5, 1) := by decide +kernel
theorem dX3_firstUnlike_17 : decode cX3_firstUnlike 17 = .ok (.imul, 1) := by decide +kernel
theorem dX3_firstUnlike_18 : decode cX3_firstUnlike 18 = .ok (.if_icmp .ge 28, 3) := by decide +kernel
theorem dX3_firstUnlike_21 : decode cX3_firstUnlike 21 = .ok (.aload_n 0, 1) := by decide +kernel
theorem dX3_firstUnlike_22 : decode cX3_firstUnlike 22 = .ok (.getfield 15, 3) := by decide +kernel
theorem dX3_firstUnlike_25 : decode cX3_firstUnlike 25 = .ok (.iload_n 3, 1) := by decide +kernel
theorem dX3_firstUnlike_26 : decode cX3_firstUnlike 26 = .ok (.iaload, 1) := by decide +kernel
theorem dX3_firstUnlike_27 : decode cX3_firstUnlike 27 = .ok (.aload_n 1, 1) := by decide +kernel
theorem dX3_firstUnlike_28 : decode cX3_firstUnlike 28 = .ok (.getfield 15, 3) := by decide +kernel
theorem dX3_firstUnlike_31 : decode cX3_firstUnlike 31 = .ok (.iload_n 3, 1) := by decide +kernel
theorem dX3_firstUnlike_32 : decode cX3_firstUnlike 32 = .ok (.iaload, 1) := by decide +kernel
theorem dX3_firstUnlike_33 : decode cX3_firstUnlike 33 = .ok (.if_icmp .eq 7, 3) := by decide +kernel
theorem dX3_firstUnlike_36 : decode cX3_firstUnlike 36 = .ok (.iload_n 3, 1) := by decide +kernel
theorem dX3_firstUnlike_37 : decode cX3_firstUnlike 37 = .ok (.iconst 5, 1) := by decide +kernel
theorem dX3_firstUnlike_38 : decode cX3_firstUnlike 38 = .ok (.idiv, 1) := by decide +kernel
theorem dX3_firstUnlike_39 : decode cX3_firstUnlike 39 = .ok (.ireturn, 1) := by decide +kernel
theorem dX3_firstUnlike_40 : decode cX3_firstUnlike 40 = .ok (.iinc 3 1, 3) := by decide +kernel
theorem dX3_firstUnlike_43 : decode cX3_firstUnlike 43 = .ok (.goto (-29), 3) := by decide +kernel
theorem dX3_firstUnlike_46 : decode cX3_firstUnlike 46 = .ok (.aload_n 0, 1) := by decide +kernel
theorem dX3_firstUnlike_47 : decode cX3_firstUnlike 47 = .ok (.getfield 9, 3) := by decide +kernel
theorem dX3_firstUnlike_50 : decode cX3_firstUnlike 50 = .ok (.aload_n 1, 1) := by decide +kernel
theorem dX3_firstUnlike_51 : decode cX3_firstUnlike 51 = .ok (.getfield 9, 3) := by decide +kernel
theorem dX3_firstUnlike_54 : decode cX3_firstUnlike 54 = .ok (.if_icmp .ne 7, 3) := by decide +kernel
theorem dX3_firstUnlike_57 : decode cX3_firstUnlike 57 = .ok (.iconst (-1), 1) := by decide +kernel
theorem dX3_firstUnlike_58 : decode cX3_firstUnlike 58 = .ok (.goto 4, 3) := by decide +kernel
theorem dX3_firstUnlike_61 : decode cX3_firstUnlike 61 = .ok (.iload_n 2, 1) := by decide +kernel
theorem dX3_firstUnlike_62 : decode cX3_firstUnlike 62 = .ok (.ireturn, 1) := by decide +kernel
theorem dX3_summed_0 : decode cX3_summed 0 = .ok (.lload_n 1, 1) := by decide +kernel
theorem dX3_summed_1 : decode cX3_summed 1 = .ok (.lstore_n 3, 1) := by decide +kernel
theorem dX3_summed_2 : decode cX3_summed 2 = .ok (.iconst 0, 1) := by decide +kernel
theorem dX3_summed_3 : decode cX3_summed 3 = .ok (.istore 5, 2) := by decide +kernel
theorem dX3_summed_5 : decode cX3_summed 5 = .ok (.iload 5, 2) := by decide +kernel
theorem dX3_summed_7 : decode cX3_summed 7 = .ok (.aload_n 0, 1) := by decide +kernel
theorem dX3_summed_8 : decode cX3_summed 8 = .ok (.getfield 9, 3) := by decide +kernel
theorem dX3_summed_11 : decode cX3_summed 11 = .ok (.iconst 5, 1) := by decide +kernel
theorem dX3_summed_12 : decode cX3_summed 12 = .ok (.imul, 1) := by decide +kernel
theorem dX3_summed_13 : decode cX3_summed 13 = .ok (.if_icmp .ge 24, 3) := by decide +kernel
theorem dX3_summed_16 : decode cX3_summed 16 = .ok (.lload_n 3, 1) := by decide +kernel
theorem dX3_summed_17 : decode cX3_summed 17 = .ok (.ldc2_w 42, 3) := by decide +kernel
theorem dX3_summed_20 : decode cX3_summed 20 = .ok (.lmul, 1) := by decide +kernel
theorem dX3_summed_21 : decode cX3_summed 21 = .ok (.aload_n 0, 1) := by decide +kernel
theorem dX3_summed_22 : decode cX3_summed 22 = .ok (.getfield 15, 3) := by decide +kernel
theorem dX3_summed_25 : decode cX3_summed 25 = .ok (.iload 5, 2) := by decide +kernel
theorem dX3_summed_27 : decode cX3_summed 27 = .ok (.iaload, 1) := by decide +kernel
theorem dX3_summed_28 : decode cX3_summed 28 = .ok (.i2l, 1) := by decide +kernel
theorem dX3_summed_29 : decode cX3_summed 29 = .ok (.ladd, 1) := by decide +kernel
theorem dX3_summed_30 : decode cX3_summed 30 = .ok (.lstore_n 3, 1) := by decide +kernel
theorem dX3_summed_31 : decode cX3_summed 31 = .ok (.iinc 5 1, 3) := by decide +kernel
theorem dX3_summed_34 : decode cX3_summed 34 = .ok (.goto (-29), 3) := by decide +kernel
theorem dX3_summed_37 : decode cX3_summed 37 = .ok (.lload_n 3, 1) := by decide +kernel
theorem dX3_summed_38 : decode cX3_summed 38 = .ok (.lreturn, 1) := by decide +kernel
theorem dX4_init_0 : decode cX4_init 0 = .ok (.aload_n 0, 1) := by decide +kernel
theorem dX4_init_1 : decode cX4_init 1 = .ok (.invokespecial 3, 3) := by decide +kernel
theorem dX4_init_4 : decode cX4_init 4 = .ok (.aload_n 0, 1) := by decide +kernel
theorem dX4_init_5 : decode cX4_init 5 = .ok (.iconst 0, 1) := by decide +kernel
theorem dX4_init_6 : decode cX4_init 6 = .ok (.putfield 9, 3) := by decide +kernel
theorem dX4_init_9 : decode cX4_init 9 = .ok (.aload_n 0, 1) := by decide +kernel
theorem dX4_init_10 : decode cX4_init 10 = .ok (.iconst 0, 1) := by decide +kernel
theorem dX4_init_11 : decode cX4_init 11 = .ok (.putfield 15, 3) := by decide +kernel
theorem dX4_init_14 : decode cX4_init 14 = .ok (.aload_n 0, 1) := by decide +kernel
theorem dX4_init_15 : decode cX4_init 15 = .ok (.iconst 1, 1) := by decide +kernel
theorem dX4_init_16 : decode cX4_init 16 = .ok (.putfield 18, 3) := by decide +kernel
theorem dX4_init_19 : decode cX4_init 19 = .ok (.aload_n 0, 1) := by decide +kernel
theorem dX4_init_20 : decode cX4_init 20 = .ok (.lconst 0, 1) := by decide +kernel
theorem dX4_init_21 : decode cX4_init 21 = .ok (.putfield 21, 3) := by decide +kernel
theorem dX4_init_24 : decode cX4_init 24 = .ok (.aload_n 0, 1) := by decide +kernel
theorem dX4_init_25 : decode cX4_init 25 = .ok (.iconst 0, 1) := by decide +kernel
theorem dX4_init_26 : decode cX4_init 26 = .ok (.putfield 25, 3) := by decide +kernel
theorem dX4_init_29 : decode cX4_init 29 = .ok (.aload_n 0, 1) := by decide +kernel
theorem dX4_init_30 : decode cX4_init 30 = .ok (.iconst 0, 1) := by decide +kernel
theorem dX4_init_31 : decode cX4_init 31 = .ok (.putfield 28, 3) := by decide +kernel
theorem dX4_init_34 : decode cX4_init 34 = .ok (.aload_n 0, 1) := by decide +kernel
theorem dX4_init_35 : decode cX4_init 35 = .ok (.iconst 0, 1) := by decide +kernel
theorem dX4_init_36 : decode cX4_init 36 = .ok (.putfield 31, 3) := by decide +kernel
theorem dX4_init_39 : decode cX4_init 39 = .ok (.aload_n 0, 1) := by decide +kernel
theorem dX4_init_40 : decode cX4_init 40 = .ok (.iconst 0, 1) := by decide +kernel
theorem dX4_init_41 : decode cX4_init 41 = .ok (.putfield 34, 3) := by decide +kernel
theorem dX4_init_44 : decode cX4_init 44 = .ok (.aload_n 0, 1) := by decide +kernel
theorem dX4_init_45 : decode cX4_init 45 = .ok (.iconst (-1), 1) := by decide +kernel
theorem dX4_init_46 : decode cX4_init 46 = .ok (.putfield 37, 3) := by decide +kernel
theorem dX4_init_49 : decode cX4_init 49 = .ok (.aload_n 0, 1) := by decide +kernel
theorem dX4_init_50 : decode cX4_init 50 = .ok (.iconst (-1), 1) := by decide +kernel
theorem dX4_init_51 : decode cX4_init 51 = .ok (.putfield 40, 3) := by decide +kernel
theorem dX4_init_54 : decode cX4_init 54 = .ok (.aload_n 0, 1) := by decide +kernel
theorem dX4_init_55 : decode cX4_init 55 = .ok (.iconst 0, 1) := by decide +kernel
theorem dX4_init_56 : decode cX4_init 56 = .ok (.putfield 43, 3) := by decide +kernel
theorem dX4_init_59 : decode cX4_init 59 = .ok (.aload_n 0, 1) := by decide +kernel
theorem dX4_init_60 : decode cX4_init 60 = .ok (.bipush 100, 2) := by decide +kernel
theorem dX4_init_62 : decode cX4_init 62 = .ok (.putfield 46, 3) := by decide +kernel
theorem dX4_init_65 : decode cX4_init 65 = .ok (.aload_n 0, 1) := by decide +kernel
theorem dX4_init_66 : decode cX4_init 66 = .ok (.iconst 0, 1) := by decide +kernel
theorem dX4_init_67 : decode cX4_init 67 = .ok (.putfield 49, 3) := by decide +kernel
theorem dX4_init_70 : decode cX4_init 70 = .ok (.aload_n 0, 1) := by decide +kernel
theorem dX4_init_71 : decode cX4_init 71 = .ok (.iconst 0, 1) := by decide +kernel
theorem dX4_init_72 : decode cX4_init 72 = .ok (.putfield 52, 3) := by decide +kernel
theorem dX4_init_75 : decode cX4_init 75 = .ok (.aload_n 0, 1) := by decide +kernel
theorem dX4_init_76 : decode cX4_init 76 = .ok (.iconst 0, 1) := by decide +kernel
theorem dX4_init_77 : decode cX4_init 77 = .ok (.putfield 55, 3) := by decide +kernel
theorem dX4_init_80 : decode cX4_init 80 = .ok (.aload_n 0, 1) := by decide +kernel
theorem dX4_init_81 : decode cX4_init 81 = .ok (.iconst (-1), 1) := by decide +kernel
theorem dX4_init_82 : decode cX4_init 82 = .ok (.putfield 58, 3) := by decide +kernel
theorem dX4_init_85 : decode cX4_init 85 = .ok (.aload_n 0, 1) := by decide +kernel
theorem dX4_init_86 : decode cX4_init 86 = .ok (.aconst_null, 1) := by decide +kernel
theorem dX4_init_87 : decode cX4_init 87 = .ok (.putfield 61, 3) := by decide +kernel
theorem dX4_init_90 : decode cX4_init 90 = .ok (.aload_n 0, 1) := by decide +kernel
theorem dX4_init_91 : decode cX4_init 91 = .ok (.lconst 0, 1) := by decide +kernel
theorem dX4_init_92 : decode cX4_init 92 = .ok (.putfield 65, 3) := by decide +kernel
theorem dX4_init_95 : decode cX4_init 95 = .ok (.aload_n 0, 1) := by decide +kernel
theorem dX4_init_96 : decode cX4_init 96 = .ok (.iload_n 1, 1) := by decide +kernel
theorem dX4_init_97 : decode cX4_init 97 = .ok (.putfield 68, 3) := by decide +kernel
theorem dX4_init_100 : decode cX4_init 100 = .ok (.return_, 1) := by decide +kernel
theorem dX4_begin_0 : decode cX4_begin 0 = .ok (.aload_n 0, 1) := by decide +kernel
theorem dX4_begin_1 : decode cX4_begin 1 = .ok (.iload_n 1, 1) := by decide +kernel
theorem dX4_begin_2 : decode cX4_begin 2 = .ok (.putfield 9, 3) := by decide +kernel
theorem dX4_begin_5 : decode cX4_begin 5 = .ok (.aload_n 0, 1) := by decide +kernel
theorem dX4_begin_6 : decode cX4_begin 6 = .ok (.iload_n 2, 1) := by decide +kernel
theorem dX4_begin_7 : decode cX4_begin 7 = .ok (.putfield 15, 3) := by decide +kernel
theorem dX4_begin_10 : decode cX4_begin 10 = .ok (.aload_n 0, 1) := by decide +kernel
theorem dX4_begin_11 : decode cX4_begin 11 = .ok (.iload_n 3, 1) := by decide +kernel
theorem dX4_begin_12 : decode cX4_begin 12 = .ok (.putfield 18, 3) := by decide +kernel
theorem dX4_begin_15 : decode cX4_begin 15 = .ok (.aload_n 0, 1) := by decide +kernel
theorem dX4_begin_16 : decode cX4_begin 16 = .ok (.lload 4, 2) := by decide +kernel
theorem dX4_begin_18 : decode cX4_begin 18 = .ok (.putfield 21, 3) := by decide +kernel
theorem dX4_begin_21 : decode cX4_begin 21 = .ok (.aload_n 0, 1) := by decide +kernel
theorem dX4_begin_22 : decode cX4_begin 22 = .ok (.iconst 0, 1) := by decide +kernel
theorem dX4_begin_23 : decode cX4_begin 23 = .ok (.putfield 25, 3) := by decide +kernel
theorem dX4_begin_26 : decode cX4_begin 26 = .ok (.aload_n 0, 1) := by decide +kernel
theorem dX4_begin_27 : decode cX4_begin 27 = .ok (.iconst 0, 1) := by decide +kernel
theorem dX4_begin_28 : decode cX4_begin 28 = .ok (.putfield 28, 3) := by decide +kernel
theorem dX4_begin_31 : decode cX4_begin 31 = .ok (.aload_n 0, 1) := by decide +kernel
theorem dX4_begin_32 : decode cX4_begin 32 = .ok (.iconst 0, 1) := by decide +kernel
theorem dX4_begin_33 : decode cX4_begin 33 = .ok (.putfield 31, 3) := by decide +kernel
theorem dX4_begin_36 : decode cX4_begin 36 = .ok (.aload_n 0, 1) := by decide +kernel
theorem dX4_begin_37 : decode cX4_begin 37 = .ok (.iconst 0, 1) := by decide +kernel
theorem dX4_begin_38 : decode cX4_begin 38 = .ok (.putfield 34, 3) := by decide +kernel
theorem dX4_begin_41 : decode cX4_begin 41 = .ok (.aload_n 0, 1) := by decide +kernel
theorem dX4_begin_42 : decode cX4_begin 42 = .ok (.iconst (-1), 1) := by decide +kernel
theorem dX4_begin_43 : decode cX4_begin 43 = .ok (.putfield 37, 3) := by decide +kernel
theorem dX4_begin_46 : decode cX4_begin 46 = .ok (.aload_n 0, 1) := by decide +kernel
theorem dX4_begin_47 : decode cX4_begin 47 = .ok (.iconst (-1), 1) := by decide +kernel
theorem dX4_begin_48 : decode cX4_begin 48 = .ok (.putfield 40, 3) := by decide +kernel
theorem dX4_begin_51 : decode cX4_begin 51 = .ok (.aload_n 0, 1) := by decide +kernel
theorem dX4_begin_52 : decode cX4_begin 52 = .ok (.iconst 0, 1) := by decide +kernel
theorem dX4_begin_53 : decode cX4_begin 53 = .ok (.putfield 43, 3) := by decide +kernel
theorem dX4_begin_56 : decode cX4_begin 56 = .ok (.aload_n 0, 1) := by decide +kernel
theorem dX4_begin_57 : decode cX4_begin 57 = .ok (.iconst (-1), 1) := by decide +kernel
theorem dX4_begin_58 : decode cX4_begin 58 = .ok (.putfield 58, 3) := by decide +kernel
theorem dX4_begin_61 : decode cX4_begin 61 = .ok (.return_, 1) := by decide +kernel
theorem dX4_startPeriod_0 : decode cX4_startPeriod 0 = .ok (.aload_n 0, 1) := by decide +kernel
theorem dX4_startPeriod_1 : decode cX4_startPeriod 1 = .ok (.iload_n 1, 1) := by decide +kernel
theorem dX4_startPeriod_2 : decode cX4_startPeriod 2 = .ok (.putfield 46, 3) := by decide +kernel
theorem dX4_startPeriod_5 : decode cX4_startPeriod 5 = .ok (.aload_n 0, 1) := by decide +kernel
theorem dX4_startPeriod_6 : decode cX4_startPeriod 6 = .ok (.iload_n 2, 1) := by decide +kernel
theorem dX4_startPeriod_7 : decode cX4_startPeriod 7 = .ok (.putfield 49, 3) := by decide +kernel
theorem dX4_startPeriod_10 : decode cX4_startPeriod 10 = .ok (.aload_n 0, 1) := by decide +kernel
theorem dX4_startPeriod_11 : decode cX4_startPeriod 11 = .ok (.iload_n 3, 1) := by decide +kernel
theorem dX4_startPeriod_12 : decode cX4_startPeriod 12 = .ok (.iload_n 1, 1) := by decide +kernel
theorem dX4_startPeriod_13 : decode cX4_startPeriod 13 = .ok (.iadd, 1) := by decide +kernel
theorem dX4_startPeriod_14 : decode cX4_startPeriod 14 = .ok (.putfield 52, 3) := by decide +kernel
theorem dX4_startPeriod_17 : decode cX4_startPeriod 17 = .ok (.aload_n 0, 1) := by decide +kernel
theorem dX4_startPeriod_18 : decode cX4_startPeriod 18 = .ok (.iload_n 2, 1) := by decide +kernel
theorem dX4_startPeriod_19 : decode cX4_startPeriod 19 = .ok (.putfield 55, 3) := by decide +kernel
theorem dX4_startPeriod_22 : decode cX4_startPeriod 22 = .ok (.return_, 1) := by decide +kernel
theorem dX4_become_0 : decode cX4_become 0 = .ok (.aload_n 0, 1) := by decide +kernel
theorem dX4_become_1 : decode cX4_become 1 = .ok (.aload_n 1, 1) := by decide +kernel
theorem dX4_become_2 : decode cX4_become 2 = .ok (.getfield 9, 3) := by decide +kernel
theorem dX4_become_5 : decode cX4_become 5 = .ok (.aload_n 1, 1) := by decide +kernel
theorem dX4_become_6 : decode cX4_become 6 = .ok (.getfield 15, 3) := by decide +kernel
theorem dX4_become_9 : decode cX4_become 9 = .ok (.aload_n 1, 1) := by decide +kernel
theorem dX4_become_10 : decode cX4_become 10 = .ok (.getfield 18, 3) := by decide +kernel
theorem dX4_become_13 : decode cX4_become 13 = .ok (.aload_n 1, 1) := by decide +kernel
theorem dX4_become_14 : decode cX4_become 14 = .ok (.getfield 21, 3) := by decide +kernel
theorem dX4_become_17 : decode cX4_become 17 = .ok (.invokevirtual 71, 3) := by decide +kernel
theorem dX4_become_20 : decode cX4_become 20 = .ok (.aload_n 0, 1) := by decide +kernel
theorem dX4_become_21 : decode cX4_become 21 = .ok (.aload_n 1, 1) := by decide +kernel
theorem dX4_become_22 : decode cX4_become 22 = .ok (.getfield 25, 3) := by decide +kernel
theorem dX4_become_25 : decode cX4_become 25 = .ok (.putfield 25, 3) := by decide +kernel
theorem dX4_become_28 : decode cX4_become 28 = .ok (.aload_n 0, 1) := by decide +kernel
theorem dX4_become_29 : decode cX4_become 29 = .ok (.aload_n 1, 1) := by decide +kernel
theorem dX4_become_30 : decode cX4_become 30 = .ok (.getfield 28, 3) := by decide +kernel
theorem dX4_become_33 : decode cX4_become 33 = .ok (.putfield 28, 3) := by decide +kernel
theorem dX4_become_36 : decode cX4_become 36 = .ok (.aload_n 0, 1) := by decide +kernel
theorem dX4_become_37 : decode cX4_become 37 = .ok (.aload_n 1, 1) := by decide +kernel
theorem dX4_become_38 : decode cX4_become 38 = .ok (.getfield 31, 3) := by decide +kernel
theorem dX4_become_41 : decode cX4_become 41 = .ok (.putfield 31, 3) := by decide +kernel
theorem dX4_become_44 : decode cX4_become 44 = .ok (.aload_n 0, 1) := by decide +kernel
theorem dX4_become_45 : decode cX4_become 45 = .ok (.aload_n 1, 1) := by decide +kernel
theorem dX4_become_46 : decode cX4_become 46 = .ok (.getfield 34, 3) := by decide +kernel
theorem dX4_become_49 : decode cX4_become 49 = .ok (.putfield 34, 3) := by decide +kernel
theorem dX4_become_52 : decode cX4_become 52 = .ok (.aload_n 0, 1) := by decide +kernel
theorem dX4_become_53 : decode cX4_become 53 = .ok (.aload_n 1, 1) := by decide +kernel
theorem dX4_become_54 : decode cX4_become 54 = .ok (.getfield 37, 3) := by decide +kernel
theorem dX4_become_57 : decode cX4_become 57 = .ok (.putfield 37, 3) := by decide +kernel
theorem dX4_become_60 : decode cX4_become 60 = .ok (.aload_n 0, 1) := by decide +kernel
theorem dX4_become_61 : decode cX4_become 61 = .ok (.aload_n 1, 1) := by decide +kernel
theorem dX4_become_62 : decode cX4_become 62 = .ok (.getfield 40, 3) := by decide +kernel
theorem dX4_become_65 : decode cX4_become 65 = .ok (.putfield 40, 3) := by decide +kernel
theorem dX4_become_68 : decode cX4_become 68 = .ok (.aload_n 0, 1) := by decide +kernel
theorem dX4_become_69 : decode cX4_become 69 = .ok (.aload_n 1, 1) := by decide +kernel
theorem dX4_become_70 : decode cX4_become 70 = .ok (.getfield 43, 3) := by decide +kernel
theorem dX4_become_73 : decode cX4_become 73 = .ok (.putfield 43, 3) := by decide +kernel
theorem dX4_become_76 : decode cX4_become 76 = .ok (.aload_n 0, 1) := by decide +kernel
theorem dX4_become_77 : decode cX4_become 77 = .ok (.aload_n 1, 1) := by decide +kernel
theorem dX4_become_78 : decode cX4_become 78 = .ok (.getfield 46, 3) := by decide +kernel
theorem dX4_become_81 : decode cX4_become 81 = .ok (.putfield 46, 3) := by decide +kernel
theorem dX4_become_84 : decode cX4_become 84 = .ok (.aload_n 0, 1) := by decide +kernel
theorem dX4_become_85 : decode cX4_become 85 = .ok (.aload_n 1, 1) := by decide +kernel
theorem dX4_become_86 : decode cX4_become 86 = .ok (.getfield 49, 3) := by decide +kernel
theorem dX4_become_89 : decode cX4_become 89 = .ok (.putfield 49, 3) := by decide +kernel
theorem dX4_become_92 : decode cX4_become 92 = .ok (.aload_n 0, 1) := by decide +kernel
theorem dX4_become_93 : decode cX4_become 93 = .ok (.aload_n 1, 1) := by decide +kernel
theorem dX4_become_94 : decode cX4_become 94 = .ok (.getfield 52, 3) := by decide +kernel
theorem dX4_become_97 : decode cX4_become 97 = .ok (.putfield 52, 3) := by decide +kernel
theorem dX4_become_100 : decode cX4_become 100 = .ok (.aload_n 0, 1) := by decide +kernel
theorem dX4_become_101 : decode cX4_become 101 = .ok (.aload_n 1, 1) := by decide +kernel
theorem dX4_become_102 : decode cX4_become 102 = .ok (.getfield 55, 3) := by decide +kernel
theorem dX4_become_105 : decode cX4_become 105 = .ok (.putfield 55, 3) := by decide +kernel
theorem dX4_become_108 : decode cX4_become 108 = .ok (.aload_n 1, 1) := by decide +kernel
theorem dX4_become_109 : decode cX4_become 109 = .ok (.getfield 58, 3) := by decide +kernel
theorem dX4_become_112 : decode cX4_become 112 = .ok (.ifCond .lt 11, 3) := by decide +kernel
theorem dX4_become_115 : decode cX4_become 115 = .ok (.aload_n 0, 1) := by decide +kernel
theorem dX4_become_116 : decode cX4_become 116 = .ok (.aload_n 1, 1) := by decide +kernel
theorem dX4_become_117 : decode cX4_become 117 = .ok (.getfield 58, 3) := by decide +kernel
theorem dX4_become_120 : decode cX4_become 120 = .ok (.invokevirtual 75, 3) := by decide +kernel
theorem dX4_become_123 : decode cX4_become 123 = .ok (.iconst 0, 1) := by decide +kernel
theorem dX4_become_124 : decode cX4_become 124 = .ok (.istore_n 2, 1) := by decide +kernel
theorem dX4_become_125 : decode cX4_become 125 = .ok (.iload_n 2, 1) := by decide +kernel
theorem dX4_become_126 : decode cX4_become 126 = .ok (.aload_n 1, 1) := by decide +kernel
theorem dX4_become_127 : decode cX4_become 127 = .ok (.getfield 58, 3) := by decide +kernel
theorem dX4_become_130 : decode cX4_become 130 = .ok (.if_icmp .ge 19, 3) := by decide +kernel
theorem dX4_become_133 : decode cX4_become 133 = .ok (.aload_n 0, 1) := by decide +kernel
theorem dX4_become_134 : decode cX4_become 134 = .ok (.iload_n 2, 1) := by decide +kernel
theorem dX4_become_135 : decode cX4_become 135 = .ok (.aload_n 1, 1) := by decide +kernel
theorem dX4_become_136 : decode cX4_become 136 = .ok (.iload_n 2, 1) := by decide +kernel
theorem dX4_become_137 : decode cX4_become 137 = .ok (.invokevirtual 79, 3) := by decide +kernel
theorem dX4_become_140 : decode cX4_become 140 = .ok (.invokevirtual 83, 3) := by decide +kernel
theorem dX4_become_143 : decode cX4_become 143 = .ok (.iinc 2 1, 3) := by decide +kernel
theorem dX4_become_146 : decode cX4_become 146 = .ok (.goto (-21), 3) := by decide +kernel
theorem dX4_become_149 : decode cX4_become 149 = .ok (.return_, 1) := by decide +kernel
theorem dX4_hasDeadline_0 : decode cX4_hasDeadline 0 = .ok (.aload_n 0, 1) := by decide +kernel
theorem dX4_hasDeadline_1 : decode cX4_hasDeadline 1 = .ok (.getfield 9, 3) := by decide +kernel
theorem dX4_hasDeadline_4 : decode cX4_hasDeadline 4 = .ok (.iconst 1, 1) := by decide +kernel
theorem dX4_hasDeadline_5 : decode cX4_hasDeadline 5 = .ok (.if_icmp .eq 11, 3) := by decide +kernel
theorem dX4_hasDeadline_8 : decode cX4_hasDeadline 8 = .ok (.aload_n 0, 1) := by decide +kernel
theorem dX4_hasDeadline_9 : decode cX4_hasDeadline 9 = .ok (.getfield 9, 3) := by decide +kernel
theorem dX4_hasDeadline_12 : decode cX4_hasDeadline 12 = .ok (.iconst 2, 1) := by decide +kernel
theorem dX4_hasDeadline_13 : decode cX4_hasDeadline 13 = .ok (.if_icmp .ne 7, 3) := by decide +kernel
theorem dX4_hasDeadline_16 : decode cX4_hasDeadline 16 = .ok (.iconst 1, 1) := by decide +kernel
theorem dX4_hasDeadline_17 : decode cX4_hasDeadline 17 = .ok (.goto 4, 3) := by decide +kernel
theorem dX4_hasDeadline_20 : decode cX4_hasDeadline 20 = .ok (.iconst 0, 1) := by decide +kernel
theorem dX4_hasDeadline_21 : decode cX4_hasDeadline 21 = .ok (.ireturn, 1) := by decide +kernel
theorem dX4_isOf_0 : decode cX4_isOf 0 = .ok (.iload_n 1, 1) := by decide +kernel
theorem dX4_isOf_1 : decode cX4_isOf 1 = .ok (.ifCond .eq 37, 3) := by decide +kernel
theorem dX4_isOf_4 : decode cX4_isOf 4 = .ok (.iload_n 1, 1) := by decide +kernel
theorem dX4_isOf_5 : decode cX4_isOf 5 = .ok (.aload_n 0, 1) := by decide +kernel
theorem dX4_isOf_6 : decode cX4_isOf 6 = .ok (.getfield 9, 3) := by decide +kernel
theorem dX4_isOf_9 : decode cX4_isOf 9 = .ok (.if_icmp .eq 29, 3) := by decide +kernel
theorem dX4_isOf_12 : decode cX4_isOf 12 = .ok (.iload_n 1, 1) := by decide +kernel
theorem dX4_isOf_13 : decode cX4_isOf 13 = .ok (.iconst 1, 1) := by decide +kernel
theorem dX4_isOf_14 : decode cX4_isOf 14 = .ok (.if_icmp .ne 11, 3) := by decide +kernel
theorem dX4_isOf_17 : decode cX4_isOf 17 = .ok (.aload_n 0, 1) := by decide +kernel
theorem dX4_isOf_18 : decode cX4_isOf 18 = .ok (.getfield 9, 3) := by decide +kernel
theorem dX4_isOf_21 : decode cX4_isOf 21 = .ok (.iconst 2, 1) := by decide +kernel
theorem dX4_isOf_22 : decode cX4_isOf 22 = .ok (.if_icmp .eq 16, 3) := by decide +kernel
theorem dX4_isOf_25 : decode cX4_isOf 25 = .ok (.iload_n 1, 1) := by decide +kernel
theorem dX4_isOf_26 : decode cX4_isOf 26 = .ok (.iconst 3, 1) := by decide +kernel
theorem dX4_isOf_27 : decode cX4_isOf 27 = .ok (.if_icmp .ne 15, 3) := by decide +kernel
theorem dX4_isOf_30 : decode cX4_isOf 30 = .ok (.aload_n 0, 1) := by decide +kernel
theorem dX4_isOf_31 : decode cX4_isOf 31 = .ok (.getfield 9, 3) := by decide +kernel
theorem dX4_isOf_34 : decode cX4_isOf 34 = .ok (.iconst 4, 1) := by decide +kernel
theorem dX4_isOf_35 : decode cX4_isOf 35 = .ok (.if_icmp .ne 7, 3) := by decide +kernel
theorem dX4_isOf_38 : decode cX4_isOf 38 = .ok (.iconst 1, 1) := by decide +kernel
theorem dX4_isOf_39 : decode cX4_isOf 39 = .ok (.goto 4, 3) := by decide +kernel
theorem dX4_isOf_42 : decode cX4_isOf 42 = .ok (.iconst 0, 1) := by decide +kernel
theorem dX4_isOf_43 : decode cX4_isOf 43 = .ok (.ireturn, 1) := by decide +kernel
theorem dX4_rank_0 : decode cX4_rank 0 = .ok (.aload_n 0, 1) := by decide +kernel
theorem dX4_rank_1 : decode cX4_rank 1 = .ok (.getfield 55, 3) := by decide +kernel
theorem dX4_rank_4 : decode cX4_rank 4 = .ok (.ifCond .le 18, 3) := by decide +kernel
theorem dX4_rank_7 : decode cX4_rank 7 = .ok (.aload_n 0, 1) := by decide +kernel
theorem dX4_rank_8 : decode cX4_rank 8 = .ok (.getfield 52, 3) := by decide +kernel
theorem dX4_rank_11 : decode cX4_rank 11 = .ok (.i2l, 1) := by decide +kernel
theorem dX4_rank_12 : decode cX4_rank 12 = .ok (.bipush 8, 2) := by decide +kernel
theorem dX4_rank_14 : decode cX4_rank 14 = .ok (.lshl, 1) := by decide +kernel
theorem dX4_rank_15 : decode cX4_rank 15 = .ok (.aload_n 0, 1) := by decide +kernel
theorem dX4_rank_16 : decode cX4_rank 16 = .ok (.getfield 68, 3) := by decide +kernel
theorem dX4_rank_19 : decode cX4_rank 19 = .ok (.i2l, 1) := by decide +kernel
theorem dX4_rank_20 : decode cX4_rank 20 = .ok (.ladd, 1) := by decide +kernel
theorem dX4_rank_21 : decode cX4_rank 21 = .ok (.lreturn, 1) := by decide +kernel
theorem dX4_rank_22 : decode cX4_rank 22 = .ok (.ldc2_w 87, 3) := by decide +kernel
theorem dX4_rank_25 : decode cX4_rank 25 = .ok (.aload_n 0, 1) := by decide +kernel
theorem dX4_rank_26 : decode cX4_rank 26 = .ok (.getfield 21, 3) := by decide +kernel
theorem dX4_rank_29 : decode cX4_rank 29 = .ok (.bipush 8, 2) := by decide +kernel
theorem dX4_rank_31 : decode cX4_rank 31 = .ok (.lshl, 1) := by decide +kernel
theorem dX4_rank_32 : decode cX4_rank 32 = .ok (.ladd, 1) := by decide +kernel
theorem dX4_rank_33 : decode cX4_rank 33 = .ok (.aload_n 0, 1) := by decide +kernel
theorem dX4_rank_34 : decode cX4_rank 34 = .ok (.getfield 68, 3) := by decide +kernel
theorem dX4_rank_37 : decode cX4_rank 37 = .ok (.i2l, 1) := by decide +kernel
theorem dX4_rank_38 : decode cX4_rank 38 = .ok (.ladd, 1) := by decide +kernel
theorem dX4_rank_39 : decode cX4_rank 39 = .ok (.lreturn, 1) := by decide +kernel
theorem dX4_changeShare_0 : decode cX4_changeShare 0 = .ok (.aload_n 0, 1) := by decide +kernel
theorem dX4_changeShare_1 : decode cX4_changeShare 1 = .ok (.getfield 18, 3) := by decide +kernel
theorem dX4_changeShare_4 : decode cX4_changeShare 4 = .ok (.istore_n 2, 1) := by decide +kernel
theorem dX4_changeShare_5 : decode cX4_changeShare 5 = .ok (.aload_n 0, 1) := by decide +kernel
theorem dX4_changeShare_6 : decode cX4_changeShare 6 = .ok (.iload_n 1, 1) := by decide +kernel
theorem dX4_changeShare_7 : decode cX4_changeShare 7 = .ok (.putfield 18, 3) := by decide +kernel
theorem dX4_changeShare_10 : decode cX4_changeShare 10 = .ok (.aload_n 0, 1) := by decide +kernel
theorem dX4_changeShare_11 : decode cX4_changeShare 11 = .ok (.aload_n 0, 1) := by decide +kernel
theorem dX4_changeShare_12 : decode cX4_changeShare 12 = .ok (.getfield 25, 3) := by decide +kernel
theorem dX4_changeShare_15 : decode cX4_changeShare 15 = .ok (.iload_n 1, 1) := by decide +kernel
theorem dX4_changeShare_16 : decode cX4_changeShare 16 = .ok (.iconst 1, 1) := by decide +kernel
theorem dX4_changeShare_17 : decode cX4_changeShare 17 = .ok (.isub, 1) := by decide +kernel
theorem dX4_changeShare_18 : decode cX4_changeShare 18 = .ok (.invokestatic 89, 3) := by decide +kernel
theorem dX4_changeShare_21 : decode cX4_changeShare 21 = .ok (.putfield 25, 3) := by decide +kernel
theorem dX4_changeShare_24 : decode cX4_changeShare 24 = .ok (.iload_n 2, 1) := by decide +kernel
theorem dX4_changeShare_25 : decode cX4_changeShare 25 = .ok (.ireturn, 1) := by decide +kernel
theorem dX4_payOnce_0 : decode cX4_payOnce 0 = .ok (.aload_n 0, 1) := by decide +kernel
theorem dX4_payOnce_1 : decode cX4_payOnce 1 = .ok (.getfield 18, 3) := by decide +kernel
theorem dX4_payOnce_4 : decode cX4_payOnce 4 = .ok (.ifCond .le 38, 3) := by decide +kernel
theorem dX4_payOnce_7 : decode cX4_payOnce 7 = .ok (.sipush 1000, 3) := by decide +kernel
theorem dX4_payOnce_10 : decode cX4_payOnce 10 = .ok (.aload_n 0, 1) := by decide +kernel
theorem dX4_payOnce_11 : decode cX4_payOnce 11 = .ok (.getfield 25, 3) := by decide +kernel
theorem dX4_payOnce_14 : decode cX4_payOnce 14 = .ok (.iadd, 1) := by decide +kernel
theorem dX4_payOnce_15 : decode cX4_payOnce 15 = .ok (.istore_n 1, 1) := by decide +kernel
theorem dX4_payOnce_16 : decode cX4_payOnce 16 = .ok (.aload_n 0, 1) := by decide +kernel
theorem dX4_payOnce_17 : decode cX4_payOnce 17 = .ok (.dup, 1) := by decide +kernel
theorem dX4_payOnce_18 : decode cX4_payOnce 18 = .ok (.getfield 21, 3) := by decide +kernel
theorem dX4_payOnce_21 : decode cX4_payOnce 21 = .ok (.iload_n 1, 1) := by decide +kernel
theorem dX4_payOnce_22 : decode cX4_payOnce 22 = .ok (.aload_n 0, 1) := by decide +kernel
theorem dX4_payOnce_23 : decode cX4_payOnce 23 = .ok (.getfield 18, 3) := by decide +kernel
theorem dX4_payOnce_26 : decode cX4_payOnce 26 = .ok (.idiv, 1) := by decide +kernel
theorem dX4_payOnce_27 : decode cX4_payOnce 27 = .ok (.i2l, 1) := by decide +kernel
theorem dX4_payOnce_28 : decode cX4_payOnce 28 = .ok (.ladd, 1) := by decide +kernel
theorem dX4_payOnce_29 : decode cX4_payOnce 29 = .ok (.putfield 21, 3) := by decide +kernel
theorem dX4_payOnce_32 : decode cX4_payOnce 32 = .ok (.aload_n 0, 1) := by decide +kernel
theorem dX4_payOnce_33 : decode cX4_payOnce 33 = .ok (.iload_n 1, 1) := by decide +kernel
theorem dX4_payOnce_34 : decode cX4_payOnce 34 = .ok (.aload_n 0, 1) := by decide +kernel
theorem dX4_payOnce_35 : decode cX4_payOnce 35 = .ok (.getfield 18, 3) := by decide +kernel
theorem dX4_payOnce_38 : decode cX4_payOnce 38 = .ok (.irem, 1) := by decide +kernel
theorem dX4_payOnce_39 : decode cX4_payOnce 39 = .ok (.putfield 25, 3) := by decide +kernel
theorem dX4_payOnce_42 : decode cX4_payOnce 42 = .ok (.return_, 1) := by decide +kernel
theorem dX4_paymentsBehind_0 : decode cX4_paymentsBehind 0 = .ok (.lload_n 1, 1) := by decide +kernel
theorem dX4_paymentsBehind_1 : decode cX4_paymentsBehind 1 = .ok (.invokestatic 95, 3) := by decide +kernel
theorem dX4_paymentsBehind_4 : decode cX4_paymentsBehind 4 = .ok (.aload_n 0, 1) := by decide +kernel
theorem dX4_paymentsBehind_5 : decode cX4_paymentsBehind 5 = .ok (.getfield 68, 3) := by decide +kernel
theorem dX4_paymentsBehind_8 : decode cX4_paymentsBehind 8 = .ok (.lload_n 1, 1) := by decide +kernel
theorem dX4_paymentsBehind_9 : decode cX4_paymentsBehind 9 = .ok (.invokestatic 99, 3) := by decide +kernel
theorem dX4_paymentsBehind_12 : decode cX4_paymentsBehind 12 = .ok (.if_icmp .le 7, 3) := by decide +kernel
theorem dX4_paymentsBehind_15 : decode cX4_paymentsBehind 15 = .ok (.iconst 0, 1) := by decide +kernel
theorem dX4_paymentsBehind_16 : decode cX4_paymentsBehind 16 = .ok (.goto 4, 3) := by decide +kernel
theorem dX4_paymentsBehind_19 : decode cX4_paymentsBehind 19 = .ok (.iconst 1, 1) := by decide +kernel
theorem dX4_paymentsBehind_20 : decode cX4_paymentsBehind 20 = .ok (.i2l, 1) := by decide +kernel
theorem dX4_paymentsBehind_21 : decode cX4_paymentsBehind 21 = .ok (.ladd, 1) := by decide +kernel
theorem dX4_paymentsBehind_22 : decode cX4_paymentsBehind 22 = .ok (.lstore_n 3, 1) := by decide +kernel
theorem dX4_paymentsBehind_23 : decode cX4_paymentsBehind 23 = .ok (.aload_n 0, 1) := by decide +kernel
theorem dX4_paymentsBehind_24 : decode cX4_paymentsBehind 24 = .ok (.getfield 21, 3) := by decide +kernel
theorem dX4_paymentsBehind_27 : decode cX4_paymentsBehind 27 = .ok (.lload_n 3, 1) := by decide +kernel
theorem dX4_paymentsBehind_28 : decode cX4_paymentsBehind 28 = .ok (.lcmp, 1) := by decide +kernel
theorem dX4_paymentsBehind_29 : decode cX4_paymentsBehind 29 = .ok (.ifCond .lt 7, 3) := by decide +kernel
theorem dX4_paymentsBehind_32 : decode cX4_paymentsBehind 32 = .ok (.lconst 0, 1) := by decide +kernel
theorem dX4_paymentsBehind_33 : decode cX4_paymentsBehind 33 = .ok (.goto 29, 3) := by decide +kernel
theorem dX4_paymentsBehind_36 : decode cX4_paymentsBehind 36 = .ok (.lload_n 3, 1) := by decide +kernel
theorem dX4_paymentsBehind_37 : decode cX4_paymentsBehind 37 = .ok (.aload_n 0, 1) := by decide +kernel
theorem dX4_paymentsBehind_38 : decode cX4_paymentsBehind 38 = .ok (.getfield 21, 3) := by decide +kernel
theorem dX4_paymentsBehind_41 : decode cX4_paymentsBehind 41 = .ok (.lsub, 1) := by decide +kernel
theorem dX4_paymentsBehind_42 : decode cX4_paymentsBehind 42 = .ok (.aload_n 0, 1) := by decide +kernel
theorem dX4_paymentsBehind_43 : decode cX4_paymentsBehind 43 = .ok (.getfield 18, 3) := by decide +kernel
theorem dX4_paymentsBehind_46 : decode cX4_paymentsBehind 46 = .ok (.i2l, 1) := by decide +kernel
theorem dX4_paymentsBehind_47 : decode cX4_paymentsBehind 47 = .ok (.lmul, 1) := by decide +kernel
theorem dX4_paymentsBehind_48 : decode cX4_paymentsBehind 48 = .ok (.aload_n 0, 1) := by decide +kernel
theorem dX4_paymentsBehind_49 : decode cX4_paymentsBehind 49 = .ok (.getfield 25, 3) := by decide +kernel
theorem dX4_paymentsBehind_52 : decode cX4_paymentsBehind 52 = .ok (.i2l, 1) := by decide +kernel
theorem dX4_paymentsBehind_53 : decode cX4_paymentsBehind 53 = .ok (.lsub, 1) := by decide +kernel
theorem dX4_paymentsBehind_54 : decode cX4_paymentsBehind 54 = .ok (.ldc2_w 103, 3) := by decide +kernel
theorem dX4_paymentsBehind_57 : decode cX4_paymentsBehind 57 = .ok (.ladd, 1) := by decide +kernel
theorem dX4_paymentsBehind_58 : decode cX4_paymentsBehind 58 = .ok (.ldc2_w 105, 3) := by decide +kernel
theorem dX4_paymentsBehind_61 : decode cX4_paymentsBehind 61 = .ok (.ldiv, 1) := by decide +kernel
theorem dX4_paymentsBehind_62 : decode cX4_paymentsBehind 62 = .ok (.lreturn, 1) := by decide +kernel
theorem dX4_wake_0 : decode cX4_wake 0 = .ok (.aload_n 0, 1) := by decide +kernel
theorem dX4_wake_1 : decode cX4_wake 1 = .ok (.iconst 0, 1) := by decide +kernel
theorem dX4_wake_2 : decode cX4_wake 2 = .ok (.putfield 34, 3) := by decide +kernel
theorem dX4_wake_5 : decode cX4_wake 5 = .ok (.aload_n 0, 1) := by decide +kernel
theorem dX4_wake_6 : decode cX4_wake 6 = .ok (.iconst (-1), 1) := by decide +kernel
theorem dX4_wake_7 : decode cX4_wake 7 = .ok (.putfield 37, 3) := by decide +kernel
theorem dX4_wake_10 : decode cX4_wake 10 = .ok (.aload_n 0, 1) := by decide +kernel
theorem dX4_wake_11 : decode cX4_wake 11 = .ok (.iconst (-1), 1) := by decide +kernel
theorem dX4_wake_12 : decode cX4_wake 12 = .ok (.putfield 40, 3) := by decide +kernel
theorem dX4_wake_15 : decode cX4_wake 15 = .ok (.return_, 1) := by decide +kernel
theorem dX4_makeShorts_0 : decode cX4_makeShorts 0 = .ok (.aload_n 0, 1) := by decide +kernel
theorem dX4_makeShorts_1 : decode cX4_makeShorts 1 = .ok (.getfield 61, 3) := by decide +kernel
theorem dX4_makeShorts_4 : decode cX4_makeShorts 4 = .ok (.ifnonnull 11, 3) := by decide +kernel
theorem dX4_makeShorts_7 : decode cX4_makeShorts 7 = .ok (.aload_n 0, 1) := by decide +kernel
theorem dX4_makeShorts_8 : decode cX4_makeShorts 8 = .ok (.bipush 127, 2) := by decide +kernel
theorem dX4_makeShorts_10 : decode cX4_makeShorts 10 = .ok (.newarray .short, 2) := by decide +kernel
theorem dX4_makeShorts_12 : decode cX4_makeShorts 12 = .ok (.putfield 61, 3) := by decide +kernel
theorem dX4_makeShorts_15 : decode cX4_makeShorts 15 = .ok (.aload_n 0, 1) := by decide +kernel
theorem dX4_makeShorts_16 : decode cX4_makeShorts 16 = .ok (.getfield 61, 3) := by decide +kernel
theorem dX4_makeShorts_19 : decode cX4_makeShorts 19 = .ok (.iconst 0, 1) := by decide +kernel
theorem dX4_makeShorts_20 : decode cX4_makeShorts 20 = .ok (.invokestatic 107, 3) := by decide +kernel
theorem dX4_makeShorts_23 : decode cX4_makeShorts 23 = .ok (.aload_n 0, 1) := by decide +kernel
theorem dX4_makeShorts_24 : decode cX4_makeShorts 24 = .ok (.iload_n 1, 1) := by decide +kernel
theorem dX4_makeShorts_25 : decode cX4_makeShorts 25 = .ok (.putfield 58, 3) := by decide +kernel
theorem dX4_makeShorts_28 : decode cX4_makeShorts 28 = .ok (.return_, 1) := by decide +kernel
theorem dX4_hasShort_0 : decode cX4_hasShort 0 = .ok (.aload_n 0, 1) := by decide +kernel
theorem dX4_hasShort_1 : decode cX4_hasShort 1 = .ok (.getfield 61, 3) := by decide +kernel
theorem dX4_hasShort_4 : decode cX4_hasShort 4 = .ok (.ifnull 28, 3) := by decide +kernel
theorem dX4_hasShort_7 : decode cX4_hasShort 7 = .ok (.iload_n 1, 1) := by decide +kernel
theorem dX4_hasShort_8 : decode cX4_hasShort 8 = .ok (.ifCond .lt 24, 3) := by decide +kernel
theorem dX4_hasShort_11 : decode cX4_hasShort 11 = .ok (.iload_n 1, 1) := by decide +kernel
theorem dX4_hasShort_12 : decode cX4_hasShort 12 = .ok (.aload_n 0, 1) := by decide +kernel
theorem dX4_hasShort_13 : decode cX4_hasShort 13 = .ok (.getfield 58, 3) := by decide +kernel
theorem dX4_hasShort_16 : decode cX4_hasShort 16 = .ok (.if_icmp .ge 16, 3) := by decide +kernel
theorem dX4_hasShort_19 : decode cX4_hasShort 19 = .ok (.iload_n 1, 1) := by decide +kernel
theorem dX4_hasShort_20 : decode cX4_hasShort 20 = .ok (.aload_n 0, 1) := by decide +kernel
theorem dX4_hasShort_21 : decode cX4_hasShort 21 = .ok (.getfield 61, 3) := by decide +kernel
theorem dX4_hasShort_24 : decode cX4_hasShort 24 = .ok (.arraylength, 1) := by decide +kernel
theorem dX4_hasShort_25 : decode cX4_hasShort 25 = .ok (.if_icmp .ge 7, 3) := by decide +kernel
theorem dX4_hasShort_28 : decode cX4_hasShort 28 = .ok (.iconst 1, 1) := by decide +kernel
theorem dX4_hasShort_29 : decode cX4_hasShort 29 = .ok (.goto 4, 3) := by decide +kernel
theorem dX4_hasShort_32 : decode cX4_hasShort 32 = .ok (.iconst 0, 1) := by decide +kernel
theorem dX4_hasShort_33 : decode cX4_hasShort 33 = .ok (.ireturn, 1) := by decide +kernel
theorem dX4_shortAt_0 : decode cX4_shortAt 0 = .ok (.aload_n 0, 1) := by decide +kernel
theorem dX4_shortAt_1 : decode cX4_shortAt 1 = .ok (.iload_n 1, 1) := by decide +kernel
theorem dX4_shortAt_2 : decode cX4_shortAt 2 = .ok (.invokevirtual 113, 3) := by decide +kernel
theorem dX4_shortAt_5 : decode cX4_shortAt 5 = .ok (.ifCond .eq 12, 3) := by decide +kernel
theorem dX4_shortAt_8 : decode cX4_shortAt 8 = .ok (.aload_n 0, 1) := by decide +kernel
theorem dX4_shortAt_9 : decode cX4_shortAt 9 = .ok (.getfield 61, 3) := by decide +kernel
theorem dX4_shortAt_12 : decode cX4_shortAt 12 = .ok (.iload_n 1, 1) := by decide +kernel
theorem dX4_shortAt_13 : decode cX4_shortAt 13 = .ok (.saload, 1) := by decide +kernel
theorem dX4_shortAt_14 : decode cX4_shortAt 14 = .ok (.goto 4, 3) := by decide +kernel
theorem dX4_shortAt_17 : decode cX4_shortAt 17 = .ok (.iconst 0, 1) := by decide +kernel
theorem dX4_shortAt_18 : decode cX4_shortAt 18 = .ok (.ireturn, 1) := by decide +kernel
theorem dX4_setShort_0 : decode cX4_setShort 0 = .ok (.aload_n 0, 1) := by decide +kernel
theorem dX4_setShort_1 : decode cX4_setShort 1 = .ok (.iload_n 1, 1) := by decide +kernel
theorem dX4_setShort_2 : decode cX4_setShort 2 = .ok (.invokevirtual 113, 3) := by decide +kernel
theorem dX4_setShort_5 : decode cX4_setShort 5 = .ok (.ifCond .eq 11, 3) := by decide +kernel
theorem dX4_setShort_8 : decode cX4_setShort 8 = .ok (.aload_n 0, 1) := by decide +kernel
theorem dX4_setShort_9 : decode cX4_setShort 9 = .ok (.getfield 61, 3) := by decide +kernel
theorem dX4_setShort_12 : decode cX4_setShort 12 = .ok (.iload_n 1, 1) := by decide +kernel
theorem dX4_setShort_13 : decode cX4_setShort 13 = .ok (.iload_n 2, 1) := by decide +kernel
theorem dX4_setShort_14 : decode cX4_setShort 14 = .ok (.i2s, 1) := by decide +kernel
theorem dX4_setShort_15 : decode cX4_setShort 15 = .ok (.sastore, 1) := by decide +kernel
theorem dX4_setShort_16 : decode cX4_setShort 16 = .ok (.return_, 1) := by decide +kernel
theorem dX4_tell_0 : decode cX4_tell 0 = .ok (.iload_n 1, 1) := by decide +kernel
theorem dX4_tell_1 : decode cX4_tell 1 = .ok (.tableswitch 194 0 14 #[75, 80, 85, 90, 95, 100, 105, 110, 115, 120, 125, 141, 157, 173, 189], 75) := by decide +kernel
theorem dX4_tell_76 : decode cX4_tell 76 = .ok (.aload_n 0, 1) := by decide +kernel
theorem dX4_tell_77 : decode cX4_tell 77 = .ok (.getfield 9, 3) := by decide +kernel
theorem dX4_tell_80 : decode cX4_tell 80 = .ok (.ireturn, 1) := by decide +kernel
theorem dX4_tell_81 : decode cX4_tell 81 = .ok (.aload_n 0, 1) := by decide +kernel
theorem dX4_tell_82 : decode cX4_tell 82 = .ok (.getfield 15, 3) := by decide +kernel
theorem dX4_tell_85 : decode cX4_tell 85 = .ok (.ireturn, 1) := by decide +kernel
theorem dX4_tell_86 : decode cX4_tell 86 = .ok (.aload_n 0, 1) := by decide +kernel
theorem dX4_tell_87 : decode cX4_tell 87 = .ok (.getfield 18, 3) := by decide +kernel
theorem dX4_tell_90 : decode cX4_tell 90 = .ok (.ireturn, 1) := by decide +kernel
theorem dX4_tell_91 : decode cX4_tell 91 = .ok (.aload_n 0, 1) := by decide +kernel
theorem dX4_tell_92 : decode cX4_tell 92 = .ok (.getfield 25, 3) := by decide +kernel
theorem dX4_tell_95 : decode cX4_tell 95 = .ok (.ireturn, 1) := by decide +kernel
theorem dX4_tell_96 : decode cX4_tell 96 = .ok (.aload_n 0, 1) := by decide +kernel
theorem dX4_tell_97 : decode cX4_tell 97 = .ok (.getfield 28, 3) := by decide +kernel
theorem dX4_tell_100 : decode cX4_tell 100 = .ok (.ireturn, 1) := by decide +kernel
theorem dX4_tell_101 : decode cX4_tell 101 = .ok (.aload_n 0, 1) := by decide +kernel
theorem dX4_tell_102 : decode cX4_tell 102 = .ok (.getfield 31, 3) := by decide +kernel
theorem dX4_tell_105 : decode cX4_tell 105 = .ok (.ireturn, 1) := by decide +kernel
theorem dX4_tell_106 : decode cX4_tell 106 = .ok (.aload_n 0, 1) := by decide +kernel
theorem dX4_tell_107 : decode cX4_tell 107 = .ok (.getfield 34, 3) := by decide +kernel
theorem dX4_tell_110 : decode cX4_tell 110 = .ok (.ireturn, 1) := by decide +kernel
theorem dX4_tell_111 : decode cX4_tell 111 = .ok (.aload_n 0, 1) := by decide +kernel
theorem dX4_tell_112 : decode cX4_tell 112 = .ok (.getfield 37, 3) := by decide +kernel
theorem dX4_tell_115 : decode cX4_tell 115 = .ok (.ireturn, 1) := by decide +kernel
theorem dX4_tell_116 : decode cX4_tell 116 = .ok (.aload_n 0, 1) := by decide +kernel
theorem dX4_tell_117 : decode cX4_tell 117 = .ok (.getfield 40, 3) := by decide +kernel
theorem dX4_tell_120 : decode cX4_tell 120 = .ok (.ireturn, 1) := by decide +kernel
theorem dX4_tell_121 : decode cX4_tell 121 = .ok (.aload_n 0, 1) := by decide +kernel
theorem dX4_tell_122 : decode cX4_tell 122 = .ok (.getfield 43, 3) := by decide +kernel
theorem dX4_tell_125 : decode cX4_tell 125 = .ok (.ireturn, 1) := by decide +kernel
theorem dX4_tell_126 : decode cX4_tell 126 = .ok (.aload_n 0, 1) := by decide +kernel
theorem dX4_tell_127 : decode cX4_tell 127 = .ok (.invokevirtual 117, 3) := by decide +kernel
theorem dX4_tell_130 : decode cX4_tell 130 = .ok (.ifCond .eq 10, 3) := by decide +kernel
theorem dX4_tell_133 : decode cX4_tell 133 = .ok (.aload_n 0, 1) := by decide +kernel
theorem dX4_tell_134 : decode cX4_tell 134 = .ok (.getfield 46, 3) := by decide +kernel
theorem dX4_tell_137 : decode cX4_tell 137 = .ok (.goto 4, 3) := by decide +kernel
theorem dX4_tell_140 : decode cX4_tell 140 = .ok (.iconst (-1), 1) := by decide +kernel
theorem dX4_tell_141 : decode cX4_tell 141 = .ok (.ireturn, 1) := by decide +kernel
theorem dX4_tell_142 : decode cX4_tell 142 = .ok (.aload_n 0, 1) := by decide +kernel
theorem dX4_tell_143 : decode cX4_tell 143 = .ok (.invokevirtual 117, 3) := by decide +kernel
theorem dX4_tell_146 : decode cX4_tell 146 = .ok (.ifCond .eq 10, 3) := by decide +kernel
theorem dX4_tell_149 : decode cX4_tell 149 = .ok (.aload_n 0, 1) := by decide +kernel
theorem dX4_tell_150 : decode cX4_tell 150 = .ok (.getfield 49, 3) := by decide +kernel
theorem dX4_tell_153 : decode cX4_tell 153 = .ok (.goto 4, 3) := by decide +kernel
theorem dX4_tell_156 : decode cX4_tell 156 = .ok (.iconst (-1), 1) := by decide +kernel
theorem dX4_tell_157 : decode cX4_tell 157 = .ok (.ireturn, 1) := by decide +kernel
theorem dX4_tell_158 : decode cX4_tell 158 = .ok (.aload_n 0, 1) := by decide +kernel
theorem dX4_tell_159 : decode cX4_tell 159 = .ok (.invokevirtual 117, 3) := by decide +kernel
theorem dX4_tell_162 : decode cX4_tell 162 = .ok (.ifCond .eq 10, 3) := by decide +kernel
theorem dX4_tell_165 : decode cX4_tell 165 = .ok (.aload_n 0, 1) := by decide +kernel
theorem dX4_tell_166 : decode cX4_tell 166 = .ok (.getfield 52, 3) := by decide +kernel
theorem dX4_tell_169 : decode cX4_tell 169 = .ok (.goto 4, 3) := by decide +kernel
theorem dX4_tell_172 : decode cX4_tell 172 = .ok (.iconst (-1), 1) := by decide +kernel
theorem dX4_tell_173 : decode cX4_tell 173 = .ok (.ireturn, 1) := by decide +kernel
theorem dX4_tell_174 : decode cX4_tell 174 = .ok (.aload_n 0, 1) := by decide +kernel
theorem dX4_tell_175 : decode cX4_tell 175 = .ok (.invokevirtual 117, 3) := by decide +kernel
theorem dX4_tell_178 : decode cX4_tell 178 = .ok (.ifCond .eq 10, 3) := by decide +kernel
theorem dX4_tell_181 : decode cX4_tell 181 = .ok (.aload_n 0, 1) := by decide +kernel
theorem dX4_tell_182 : decode cX4_tell 182 = .ok (.getfield 55, 3) := by decide +kernel
theorem dX4_tell_185 : decode cX4_tell 185 = .ok (.goto 4, 3) := by decide +kernel
theorem dX4_tell_188 : decode cX4_tell 188 = .ok (.iconst (-1), 1) := by decide +kernel
theorem dX4_tell_189 : decode cX4_tell 189 = .ok (.ireturn, 1) := by decide +kernel
theorem dX4_tell_190 : decode cX4_tell 190 = .ok (.aload_n 0, 1) := by decide +kernel
theorem dX4_tell_191 : decode cX4_tell 191 = .ok (.getfield 58, 3) := by decide +kernel
theorem dX4_tell_194 : decode cX4_tell 194 = .ok (.ireturn, 1) := by decide +kernel
theorem dX4_tell_195 : decode cX4_tell 195 = .ok (.iconst (-1), 1) := by decide +kernel
theorem dX4_tell_196 : decode cX4_tell 196 = .ok (.ireturn, 1) := by decide +kernel
theorem dX5_init_0 : decode cX5_init 0 = .ok (.aload_n 0, 1) := by decide +kernel
theorem dX5_init_1 : decode cX5_init 1 = .ok (.invokespecial 3, 3) := by decide +kernel
theorem dX5_init_4 : decode cX5_init 4 = .ok (.aload_n 0, 1) := by decide +kernel
theorem dX5_init_5 : decode cX5_init 5 = .ok (.new 9, 3) := by decide +kernel
theorem dX5_init_8 : decode cX5_init 8 = .ok (.dup, 1) := by decide +kernel
theorem dX5_init_9 : decode cX5_init 9 = .ok (.invokespecial 11, 3) := by decide +kernel
theorem dX5_init_12 : decode cX5_init 12 = .ok (.putfield 12, 3) := by decide +kernel
theorem dX5_init_15 : decode cX5_init 15 = .ok (.aload_n 0, 1) := by decide +kernel
theorem dX5_init_16 : decode cX5_init 16 = .ok (.new 16, 3) := by decide +kernel
theorem dX5_init_19 : decode cX5_init 19 = .ok (.dup, 1) := by decide +kernel
theorem dX5_init_20 : decode cX5_init 20 = .ok (.invokespecial 18, 3) := by decide +kernel
theorem dX5_init_23 : decode cX5_init 23 = .ok (.putfield 19, 3) := by decide +kernel
theorem dX5_init_26 : decode cX5_init 26 = .ok (.aload_n 0, 1) := by decide +kernel
theorem dX5_init_27 : decode cX5_init 27 = .ok (.aconst_null, 1) := by decide +kernel
theorem dX5_init_28 : decode cX5_init 28 = .ok (.putfield 23, 3) := by decide +kernel
theorem dX5_init_31 : decode cX5_init 31 = .ok (.aload_n 0, 1) := by decide +kernel
theorem dX5_init_32 : decode cX5_init 32 = .ok (.aconst_null, 1) := by decide +kernel
theorem dX5_init_33 : decode cX5_init 33 = .ok (.putfield 26, 3) := by decide +kernel
theorem dX5_init_36 : decode cX5_init 36 = .ok (.aload_n 0, 1) := by decide +kernel
theorem dX5_init_37 : decode cX5_init 37 = .ok (.aconst_null, 1) := by decide +kernel
theorem dX5_init_38 : decode cX5_init 38 = .ok (.putfield 29, 3) := by decide +kernel
theorem dX5_init_41 : decode cX5_init 41 = .ok (.aload_n 0, 1) := by decide +kernel
theorem dX5_init_42 : decode cX5_init 42 = .ok (.iconst 0, 1) := by decide +kernel
theorem dX5_init_43 : decode cX5_init 43 = .ok (.putfield 32, 3) := by decide +kernel
theorem dX5_init_46 : decode cX5_init 46 = .ok (.aload_n 0, 1) := by decide +kernel
theorem dX5_init_47 : decode cX5_init 47 = .ok (.iconst (-1), 1) := by decide +kernel
theorem dX5_init_48 : decode cX5_init 48 = .ok (.putfield 36, 3) := by decide +kernel
theorem dX5_init_51 : decode cX5_init 51 = .ok (.return_, 1) := by decide +kernel
theorem dX5_program_0 : decode cX5_program 0 = .ok (.aload_n 0, 1) := by decide +kernel
theorem dX5_program_1 : decode cX5_program 1 = .ok (.getfield 12, 3) := by decide +kernel
theorem dX5_program_4 : decode cX5_program 4 = .ok (.iload_n 1, 1) := by decide +kernel
theorem dX5_program_5 : decode cX5_program 5 = .ok (.invokevirtual 39, 3) := by decide +kernel
theorem dX5_program_8 : decode cX5_program 8 = .ok (.astore 5, 2) := by decide +kernel
theorem dX5_program_10 : decode cX5_program 10 = .ok (.aload 5, 2) := by decide +kernel
theorem dX5_program_12 : decode cX5_program 12 = .ok (.ifnull 15, 3) := by decide +kernel
theorem dX5_program_15 : decode cX5_program 15 = .ok (.iload 4, 2) := by decide +kernel
theorem dX5_program_17 : decode cX5_program 17 = .ok (.ifCond .lt 10, 3) := by decide +kernel
theorem dX5_program_20 : decode cX5_program 20 = .ok (.iload 4, 2) := by decide +kernel
theorem dX5_program_22 : decode cX5_program 22 = .ok (.bipush 8, 2) := by decide +kernel
theorem dX5_program_24 : decode cX5_program 24 = .ok (.if_icmp .le 9, 3) := by decide +kernel
theorem dX5_program_27 : decode cX5_program 27 = .ok (.aload_n 0, 1) := by decide +kernel
theorem dX5_program_28 : decode cX5_program 28 = .ok (.iconst 1, 1) := by decide +kernel
theorem dX5_program_29 : decode cX5_program 29 = .ok (.invokevirtual 43, 3) := by decide +kernel
theorem dX5_program_32 : decode cX5_program 32 = .ok (.ireturn, 1) := by decide +kernel
theorem dX5_program_33 : decode cX5_program 33 = .ok (.aload 5, 2) := by decide +kernel
theorem dX5_program_35 : decode cX5_program 35 = .ok (.invokevirtual 47, 3) := by decide +kernel
theorem dX5_program_38 : decode cX5_program 38 = .ok (.iload 4, 2) := by decide +kernel
theorem dX5_program_40 : decode cX5_program 40 = .ok (.iadd, 1) := by decide +kernel
theorem dX5_program_41 : decode cX5_program 41 = .ok (.sipush 1000, 3) := by decide +kernel
theorem dX5_program_44 : decode cX5_program 44 = .ok (.if_icmp .le 9, 3) := by decide +kernel
theorem dX5_program_47 : decode cX5_program 47 = .ok (.aload_n 0, 1) := by decide +kernel
theorem dX5_program_48 : decode cX5_program 48 = .ok (.iconst 2, 1) := by decide +kernel
theorem dX5_program_49 : decode cX5_program 49 = .ok (.invokevirtual 43, 3) := by decide +kernel
theorem dX5_program_52 : decode cX5_program 52 = .ok (.ireturn, 1) := by decide +kernel
theorem dX5_program_53 : decode cX5_program 53 = .ok (.aload_n 0, 1) := by decide +kernel
theorem dX5_program_54 : decode cX5_program 54 = .ok (.iconst 0, 1) := by decide +kernel
theorem dX5_program_55 : decode cX5_program 55 = .ok (.iload_n 1, 1) := by decide +kernel
theorem dX5_program_56 : decode cX5_program 56 = .ok (.i2l, 1) := by decide +kernel
theorem dX5_program_57 : decode cX5_program 57 = .ok (.lload_n 2, 1) := by decide +kernel
theorem dX5_program_58 : decode cX5_program 58 = .ok (.iload 4, 2) := by decide +kernel
theorem dX5_program_60 : decode cX5_program 60 = .ok (.i2l, 1) := by decide +kernel
theorem dX5_program_61 : decode cX5_program 61 = .ok (.invokevirtual 53, 3) := by decide +kernel
theorem dX5_program_64 : decode cX5_program 64 = .ok (.ifCond .eq 14, 3) := by decide +kernel
theorem dX5_program_67 : decode cX5_program 67 = .ok (.aload 5, 2) := by decide +kernel
theorem dX5_program_69 : decode cX5_program 69 = .ok (.lload_n 2, 1) := by decide +kernel
theorem dX5_program_70 : decode cX5_program 70 = .ok (.iload 4, 2) := by decide +kernel
theorem dX5_program_72 : decode cX5_program 72 = .ok (.invokevirtual 57, 3) := by decide +kernel
theorem dX5_program_75 : decode cX5_program 75 = .ok (.goto 4, 3) := by decide +kernel
theorem dX5_program_78 : decode cX5_program 78 = .ok (.iconst (-1), 1) := by decide +kernel
theorem dX5_program_79 : decode cX5_program 79 = .ok (.ireturn, 1) := by decide +kernel
theorem dX5_task_0 : decode cX5_task 0 = .ok (.iload_n 1, 1) := by decide +kernel
theorem dX5_task_1 : decode cX5_task 1 = .ok (.ifCond .lt 25, 3) := by decide +kernel
theorem dX5_task_4 : decode cX5_task 4 = .ok (.iload_n 1, 1) := by decide +kernel
theorem dX5_task_5 : decode cX5_task 5 = .ok (.iconst 4, 1) := by decide +kernel
theorem dX5_task_6 : decode cX5_task 6 = .ok (.if_icmp .gt 20, 3) := by decide +kernel
theorem dX5_task_9 : decode cX5_task 9 = .ok (.iload_n 2, 1) := by decide +kernel
theorem dX5_task_10 : decode cX5_task 10 = .ok (.ifCond .lt 16, 3) := by decide +kernel
theorem dX5_task_13 : decode cX5_task 13 = .ok (.iload_n 2, 1) := by decide +kernel
theorem dX5_task_14 : decode cX5_task 14 = .ok (.bipush 32, 2) := by decide +kernel
theorem dX5_task_16 : decode cX5_task 16 = .ok (.if_icmp .ge 10, 3) := by decide +kernel
theorem dX5_task_19 : decode cX5_task 19 = .ok (.iload_n 3, 1) := by decide +kernel
theorem dX5_task_20 : decode cX5_task 20 = .ok (.invokestatic 61, 3) := by decide +kernel
theorem dX5_task_23 : decode cX5_task 23 = .ok (.ifCond .ne 9, 3) := by decide +kernel
theorem dX5_task_26 : decode cX5_task 26 = .ok (.aload_n 0, 1) := by decide +kernel
theorem dX5_task_27 : decode cX5_task 27 = .ok (.iconst 1, 1) := by decide +kernel
theorem dX5_task_28 : decode cX5_task 28 = .ok (.invokevirtual 43, 3) := by decide +kernel
theorem dX5_task_31 : decode cX5_task 31 = .ok (.ireturn, 1) := by decide +kernel
theorem dX5_task_32 : decode cX5_task 32 = .ok (.aload_n 0, 1) := by decide +kernel
theorem dX5_task_33 : decode cX5_task 33 = .ok (.getfield 12, 3) := by decide +kernel
theorem dX5_task_36 : decode cX5_task 36 = .ok (.getfield 65, 3) := by decide +kernel
theorem dX5_task_39 : decode cX5_task 39 = .ok (.sipush 200, 3) := by decide +kernel
theorem dX5_task_42 : decode cX5_task 42 = .ok (.if_icmp .lt 9, 3) := by decide +kernel
theorem dX5_task_45 : decode cX5_task 45 = .ok (.aload_n 0, 1) := by decide +kernel
theorem dX5_task_46 : decode cX5_task 46 = .ok (.iconst 2, 1) := by decide +kernel
theorem dX5_task_47 : decode cX5_task 47 = .ok (.invokevirtual 43, 3) := by decide +kernel
theorem dX5_task_50 : decode cX5_task 50 = .ok (.ireturn, 1) := by decide +kernel
theorem dX5_task_51 : decode cX5_task 51 = .ok (.aload_n 0, 1) := by decide +kernel
theorem dX5_task_52 : decode cX5_task 52 = .ok (.iconst 1, 1) := by decide +kernel
theorem dX5_task_53 : decode cX5_task 53 = .ok (.iload_n 1, 1) := by decide +kernel
theorem dX5_task_54 : decode cX5_task 54 = .ok (.i2l, 1) := by decide +kernel
theorem dX5_task_55 : decode cX5_task 55 = .ok (.iload_n 2, 1) := by decide +kernel
theorem dX5_task_56 : decode cX5_task 56 = .ok (.i2l, 1) := by decide +kernel
theorem dX5_task_57 : decode cX5_task 57 = .ok (.iload_n 3, 1) := by decide +kernel
theorem dX5_task_58 : decode cX5_task 58 = .ok (.i2l, 1) := by decide +kernel
theorem dX5_task_59 : decode cX5_task 59 = .ok (.invokevirtual 53, 3) := by decide +kernel
theorem dX5_task_62 : decode cX5_task 62 = .ok (.ifCond .eq 16, 3) := by decide +kernel
theorem dX5_task_65 : decode cX5_task 65 = .ok (.aload_n 0, 1) := by decide +kernel
theorem dX5_task_66 : decode cX5_task 66 = .ok (.getfield 12, 3) := by decide +kernel
theorem dX5_task_69 : decode cX5_task 69 = .ok (.iload_n 1, 1) := by decide +kernel
theorem dX5_task_70 : decode cX5_task 70 = .ok (.iload_n 2, 1) := by decide +kernel
theorem dX5_task_71 : decode cX5_task 71 = .ok (.iload_n 3, 1) := by decide +kernel
theorem dX5_task_72 : decode cX5_task 72 = .ok (.invokevirtual 68, 3) := by decide +kernel
theorem dX5_task_75 : decode cX5_task 75 = .ok (.goto 4, 3) := by decide +kernel
theorem dX5_task_78 : decode cX5_task 78 = .ok (.iconst (-1), 1) := by decide +kernel
theorem dX5_task_79 : decode cX5_task 79 = .ok (.ireturn, 1) := by decide +kernel
theorem dX5_share_0 : decode cX5_share 0 = .ok (.aload_n 0, 1) := by decide +kernel
theorem dX5_share_1 : decode cX5_share 1 = .ok (.getfield 12, 3) := by decide +kernel
theorem dX5_share_4 : decode cX5_share 4 = .ok (.iload_n 1, 1) := by decide +kernel
theorem dX5_share_5 : decode cX5_share 5 = .ok (.invokevirtual 72, 3) := by decide +kernel
theorem dX5_share_8 : decode cX5_share 8 = .ok (.astore_n 3, 1) := by decide +kernel
theorem dX5_share_9 : decode cX5_share 9 = .ok (.aload_n 3, 1) := by decide +kernel
theorem dX5_share_10 : decode cX5_share 10 = .ok (.ifnonnull 9, 3) := by decide +kernel
theorem dX5_share_13 : decode cX5_share 13 = .ok (.aload_n 0, 1) := by decide +kernel
theorem dX5_share_14 : decode cX5_share 14 = .ok (.iconst 3, 1) := by decide +kernel
theorem dX5_share_15 : decode cX5_share 15 = .ok (.invokevirtual 43, 3) := by decide +kernel
theorem dX5_share_18 : decode cX5_share 18 = .ok (.ireturn, 1) := by decide +kernel
theorem dX5_share_19 : decode cX5_share 19 = .ok (.iload_n 2, 1) := by decide +kernel
theorem dX5_share_20 : decode cX5_share 20 = .ok (.invokestatic 61, 3) := by decide +kernel
theorem dX5_share_23 : decode cX5_share 23 = .ok (.ifCond .ne 9, 3) := by decide +kernel
theorem dX5_share_26 : decode cX5_share 26 = .ok (.aload_n 0, 1) := by decide +kernel
theorem dX5_share_27 : decode cX5_share 27 = .ok (.iconst 1, 1) := by decide +kernel
theorem dX5_share_28 : decode cX5_share 28 = .ok (.invokevirtual 43, 3) := by decide +kernel
theorem dX5_share_31 : decode cX5_share 31 = .ok (.ireturn, 1) := by decide +kernel
theorem dX5_share_32 : decode cX5_share 32 = .ok (.aload_n 0, 1) := by decide +kernel
theorem dX5_share_33 : decode cX5_share 33 = .ok (.iconst 2, 1) := by decide +kernel
theorem dX5_share_34 : decode cX5_share 34 = .ok (.iload_n 1, 1) := by decide +kernel
theorem dX5_share_35 : decode cX5_share 35 = .ok (.i2l, 1) := by decide +kernel
theorem dX5_share_36 : decode cX5_share 36 = .ok (.iload_n 2, 1) := by decide +kernel
theorem dX5_share_37 : decode cX5_share 37 = .ok (.i2l, 1) := by decide +kernel
theorem dX5_share_38 : decode cX5_share 38 = .ok (.lconst 0, 1) := by decide +kernel
theorem dX5_share_39 : decode cX5_share 39 = .ok (.invokevirtual 53, 3) := by decide +kernel
theorem dX5_share_42 : decode cX5_share 42 = .ok (.ifCond .eq 11, 3) := by decide +kernel
theorem dX5_share_45 : decode cX5_share 45 = .ok (.aload_n 3, 1) := by decide +kernel
theorem dX5_share_46 : decode cX5_share 46 = .ok (.iload_n 2, 1) := by decide +kernel
theorem dX5_share_47 : decode cX5_share 47 = .ok (.invokevirtual 76, 3) := by decide +kernel
theorem dX5_share_50 : decode cX5_share 50 = .ok (.goto 4, 3) := by decide +kernel
theorem dX5_share_53 : decode cX5_share 53 = .ok (.iconst (-1), 1) := by decide +kernel
theorem dX5_share_54 : decode cX5_share 54 = .ok (.ireturn, 1) := by decide +kernel
theorem dX5_deadline_0 : decode cX5_deadline 0 = .ok (.aload_n 0, 1) := by decide +kernel
theorem dX5_deadline_1 : decode cX5_deadline 1 = .ok (.getfield 12, 3) := by decide +kernel
theorem dX5_deadline_4 : decode cX5_deadline 4 = .ok (.iload_n 1, 1) := by decide +kernel
theorem dX5_deadline_5 : decode cX5_deadline 5 = .ok (.invokevirtual 72, 3) := by decide +kernel
theorem dX5_deadline_8 : decode cX5_deadline 8 = .ok (.astore 4, 2) := by decide +kernel
theorem dX5_deadline_10 : decode cX5_deadline 10 = .ok (.iconst 0, 1) := by decide +kernel
theorem dX5_deadline_11 : decode cX5_deadline 11 = .ok (.istore 5, 2) := by decide +kernel
theorem dX5_deadline_13 : decode cX5_deadline 13 = .ok (.aload 4, 2) := by decide +kernel
theorem dX5_deadline_15 : decode cX5_deadline 15 = .ok (.ifnonnull 9, 3) := by decide +kernel
theorem dX5_deadline_18 : decode cX5_deadline 18 = .ok (.iconst 3, 1) := by decide +kernel
theorem dX5_deadline_19 : decode cX5_deadline 19 = .ok (.istore 5, 2) := by decide +kernel
theorem dX5_deadline_21 : decode cX5_deadline 21 = .ok (.goto 41, 3) := by decide +kernel
theorem dX5_deadline_24 : decode cX5_deadline 24 = .ok (.aload 4, 2) := by decide +kernel
theorem dX5_deadline_26 : decode cX5_deadline 26 = .ok (.invokevirtual 81, 3) := by decide +kernel
theorem dX5_deadline_29 : decode cX5_deadline 29 = .ok (.ifCond .ne 9, 3) := by decide +kernel
theorem dX5_deadline_32 : decode cX5_deadline 32 = .ok (.iconst 4, 1) := by decide +kernel
theorem dX5_deadline_33 : decode cX5_deadline 33 = .ok (.istore 5, 2) := by decide +kernel
theorem dX5_deadline_35 : decode cX5_deadline 35 = .ok (.goto 27, 3) := by decide +kernel
theorem dX5_deadline_38 : decode cX5_deadline 38 = .ok (.iload_n 2, 1) := by decide +kernel
theorem dX5_deadline_39 : decode cX5_deadline 39 = .ok (.iconst 1, 1) := by decide +kernel
theorem dX5_deadline_40 : decode cX5_deadline 40 = .ok (.if_icmp .lt 19, 3) := by decide +kernel
theorem dX5_deadline_43 : decode cX5_deadline 43 = .ok (.iload_n 2, 1) := by decide +kernel
theorem dX5_deadline_44 : decode cX5_deadline 44 = .ok (.sipush 1000, 3) := by decide +kernel
theorem dX5_deadline_47 : decode cX5_deadline 47 = .ok (.if_icmp .gt 12, 3) := by decide +kernel
theorem dX5_deadline_50 : decode cX5_deadline 50 = .ok (.iload_n 3, 1) := by decide +kernel
theorem dX5_deadline_51 : decode cX5_deadline 51 = .ok (.ifCond .lt 8, 3) := by decide +kernel
theorem dX5_deadline_54 : decode cX5_deadline 54 = .ok (.iload_n 3, 1) := by decide +kernel
theorem dX5_deadline_55 : decode cX5_deadline 55 = .ok (.iload_n 2, 1) := by decide +kernel
theorem dX5_deadline_56 : decode cX5_deadline 56 = .ok (.if_icmp .le 6, 3) := by decide +kernel
theorem dX5_deadline_59 : decode cX5_deadline 59 = .ok (.iconst 1, 1) := by decide +kernel
theorem dX5_deadline_60 : decode cX5_deadline 60 = .ok (.istore 5, 2) := by decide +kernel
theorem dX5_deadline_62 : decode cX5_deadline 62 = .ok (.aload 4, 2) := by decide +kernel
theorem dX5_deadline_64 : decode cX5_deadline 64 = .ok (.ifnull 8, 3) := by decide +kernel
theorem dX5_deadline_67 : decode cX5_deadline 67 = .ok (.iload 5, 2) := by decide +kernel
theorem dX5_deadline_69 : decode cX5_deadline 69 = .ok (.ifCond .eq 12, 3) := by decide +kernel
theorem dX5_deadline_72 : decode cX5_deadline 72 = .ok (.aload_n 0, 1) := by decide +kernel
theorem dX5_deadline_73 : decode cX5_deadline 73 = .ok (.iload 5, 2) := by decide +kernel
theorem dX5_deadline_75 : decode cX5_deadline 75 = .ok (.invokevirtual 43, 3) := by decide +kernel
theorem dX5_deadline_78 : decode cX5_deadline 78 = .ok (.pop, 1) := by decide +kernel
theorem dX5_deadline_79 : decode cX5_deadline 79 = .ok (.iconst 0, 1) := by decide +kernel
theorem dX5_deadline_80 : decode cX5_deadline 80 = .ok (.ireturn, 1) := by decide +kernel
theorem dX5_deadline_81 : decode cX5_deadline 81 = .ok (.aload_n 0, 1) := by decide +kernel
theorem dX5_deadline_82 : decode cX5_deadline 82 = .ok (.iconst 3, 1) := by decide +kernel
theorem dX5_deadline_83 : decode cX5_deadline 83 = .ok (.iload_n 1, 1) := by decide +kernel
theorem dX5_deadline_84 : decode cX5_deadline 84 = .ok (.i2l, 1) := by decide +kernel
theorem dX5_deadline_85 : decode cX5_deadline 85 = .ok (.iload_n 2, 1) := by decide +kernel
theorem dX5_deadline_86 : decode cX5_deadline 86 = .ok (.i2l, 1) := by decide +kernel
theorem dX5_deadline_87 : decode cX5_deadline 87 = .ok (.iload_n 3, 1) := by decide +kernel
theorem dX5_deadline_88 : decode cX5_deadline 88 = .ok (.i2l, 1) := by decide +kernel
theorem dX5_deadline_89 : decode cX5_deadline 89 = .ok (.invokevirtual 53, 3) := by decide +kernel
theorem dX5_deadline_92 : decode cX5_deadline 92 = .ok (.ifCond .ne 5, 3) := by decide +kernel
theorem dX5_deadline_95 : decode cX5_deadline 95 = .ok (.iconst 0, 1) := by decide +kernel
theorem dX5_deadline_96 : decode cX5_deadline 96 = .ok (.ireturn, 1) := by decide +kernel
theorem dX5_deadline_97 : decode cX5_deadline 97 = .ok (.aload 4, 2) := by decide +kernel
theorem dX5_deadline_99 : decode cX5_deadline 99 = .ok (.iload_n 2, 1) := by decide +kernel
theorem dX5_deadline_100 : decode cX5_deadline 100 = .ok (.iload_n 3, 1) := by decide +kernel
theorem dX5_deadline_101 : decode cX5_deadline 101 = .ok (.aload_n 0, 1) := by decide +kernel
theorem dX5_deadline_102 : decode cX5_deadline 102 = .ok (.getfield 12, 3) := by decide +kernel
theorem dX5_deadline_105 : decode cX5_deadline 105 = .ok (.getfield 85, 3) := by decide +kernel
theorem dX5_deadline_108 : decode cX5_deadline 108 = .ok (.invokevirtual 88, 3) := by decide +kernel
theorem dX5_deadline_111 : decode cX5_deadline 111 = .ok (.iconst 1, 1) := by decide +kernel
theorem dX5_deadline_112 : decode cX5_deadline 112 = .ok (.ireturn, 1) := by decide +kernel
theorem dX5_processors_0 : decode cX5_processors 0 = .ok (.iload_n 1, 1) := by decide +kernel
theorem dX5_processors_1 : decode cX5_processors 1 = .ok (.iconst 1, 1) := by decide +kernel
theorem dX5_processors_2 : decode cX5_processors 2 = .ok (.if_icmp .lt 8, 3) := by decide +kernel
theorem dX5_processors_5 : decode cX5_processors 5 = .ok (.iload_n 1, 1) := by decide +kernel
theorem dX5_processors_6 : decode cX5_processors 6 = .ok (.iconst 4, 1) := by decide +kernel
theorem dX5_processors_7 : decode cX5_processors 7 = .ok (.if_icmp .le 9, 3) := by decide +kernel
theorem dX5_processors_10 : decode cX5_processors 10 = .ok (.aload_n 0, 1) := by decide +kernel
theorem dX5_processors_11 : decode cX5_processors 11 = .ok (.iconst 1, 1) := by decide +kernel
theorem dX5_processors_12 : decode cX5_processors 12 = .ok (.invokevirtual 43, 3) := by decide +kernel
theorem dX5_processors_15 : decode cX5_processors 15 = .ok (.ireturn, 1) := by decide +kernel
theorem dX5_processors_16 : decode cX5_processors 16 = .ok (.aload_n 0, 1) := by decide +kernel
theorem dX5_processors_17 : decode cX5_processors 17 = .ok (.iconst 4, 1) := by decide +kernel
theorem dX5_processors_18 : decode cX5_processors 18 = .ok (.iload_n 1, 1) := by decide +kernel
theorem dX5_processors_19 : decode cX5_processors 19 = .ok (.i2l, 1) := by decide +kernel
theorem dX5_processors_20 : decode cX5_processors 20 = .ok (.lconst 0, 1) := by decide +kernel
theorem dX5_processors_21 : decode cX5_processors 21 = .ok (.lconst 0, 1) := by decide +kernel
theorem dX5_processors_22 : decode cX5_processors 22 = .ok (.invokevirtual 53, 3) := by decide +kernel
theorem dX5_processors_25 : decode cX5_processors 25 = .ok (.ifCond .eq 14, 3) := by decide +kernel
theorem dX5_processors_28 : decode cX5_processors 28 = .ok (.aload_n 0, 1) := by decide +kernel
theorem dX5_processors_29 : decode cX5_processors 29 = .ok (.getfield 12, 3) := by decide +kernel
theorem dX5_processors_32 : decode cX5_processors 32 = .ok (.iload_n 1, 1) := by decide +kernel
theorem dX5_processors_33 : decode cX5_processors 33 = .ok (.invokevirtual 92, 3) := by decide +kernel
theorem dX5_processors_36 : decode cX5_processors 36 = .ok (.goto 4, 3) := by decide +kernel
theorem dX5_processors_39 : decode cX5_processors 39 = .ok (.iconst (-1), 1) := by decide +kernel
theorem dX5_processors_40 : decode cX5_processors 40 = .ok (.ireturn, 1) := by decide +kernel
theorem dX5_lock_0 : decode cX5_lock 0 = .ok (.iload_n 1, 1) := by decide +kernel
theorem dX5_lock_1 : decode cX5_lock 1 = .ok (.ifCond .lt 9, 3) := by decide +kernel
theorem dX5_lock_4 : decode cX5_lock 4 = .ok (.iload_n 1, 1) := by decide +kernel
theorem dX5_lock_5 : decode cX5_lock 5 = .ok (.bipush 100, 2) := by decide +kernel
theorem dX5_lock_7 : decode cX5_lock 7 = .ok (.if_icmp .lt 11, 3) := by decide +kernel
theorem dX5_lock_10 : decode cX5_lock 10 = .ok (.aload_n 0, 1) := by decide +kernel
theorem dX5_lock_11 : decode cX5_lock 11 = .ok (.iconst 1, 1) := by decide +kernel
theorem dX5_lock_12 : decode cX5_lock 12 = .ok (.invokevirtual 43, 3) := by decide +kernel
theorem dX5_lock_15 : decode cX5_lock 15 = .ok (.pop, 1) := by decide +kernel
theorem dX5_lock_16 : decode cX5_lock 16 = .ok (.iconst 0, 1) := by decide +kernel
theorem dX5_lock_17 : decode cX5_lock 17 = .ok (.ireturn, 1) := by decide +kernel
theorem dX5_lock_18 : decode cX5_lock 18 = .ok (.aload_n 0, 1) := by decide +kernel
theorem dX5_lock_19 : decode cX5_lock 19 = .ok (.getfield 12, 3) := by decide +kernel
theorem dX5_lock_22 : decode cX5_lock 22 = .ok (.iload_n 1, 1) := by decide +kernel
theorem dX5_lock_23 : decode cX5_lock 23 = .ok (.invokevirtual 95, 3) := by decide +kernel
theorem dX5_lock_26 : decode cX5_lock 26 = .ok (.bipush (-2), 2) := by decide +kernel
theorem dX5_lock_28 : decode cX5_lock 28 = .ok (.if_icmp .eq 11, 3) := by decide +kernel
theorem dX5_lock_31 : decode cX5_lock 31 = .ok (.aload_n 0, 1) := by decide +kernel
theorem dX5_lock_32 : decode cX5_lock 32 = .ok (.iconst 2, 1) := by decide +kernel
theorem dX5_lock_33 : decode cX5_lock 33 = .ok (.invokevirtual 43, 3) := by decide +kernel
theorem dX5_lock_36 : decode cX5_lock 36 = .ok (.pop, 1) := by decide +kernel
theorem dX5_lock_37 : decode cX5_lock 37 = .ok (.iconst 0, 1) := by decide +kernel
theorem dX5_lock_38 : decode cX5_lock 38 = .ok (.ireturn, 1) := by decide +kernel
theorem dX5_lock_39 : decode cX5_lock 39 = .ok (.aload_n 0, 1) := by decide +kernel
theorem dX5_lock_40 : decode cX5_lock 40 = .ok (.iconst 5, 1) := by decide +kernel
theorem dX5_lock_41 : decode cX5_lock 41 = .ok (.iload_n 1, 1) := by decide +kernel
theorem dX5_lock_42 : decode cX5_lock 42 = .ok (.i2l, 1) := by decide +kernel
theorem dX5_lock_43 : decode cX5_lock 43 = .ok (.lconst 0, 1) := by decide +kernel
theorem dX5_lock_44 : decode cX5_lock 44 = .ok (.lconst 0, 1) := by decide +kernel
theorem dX5_lock_45 : decode cX5_lock 45 = .ok (.invokevirtual 53, 3) := by decide +kernel
theorem dX5_lock_48 : decode cX5_lock 48 = .ok (.ifCond .ne 5, 3) := by decide +kernel
theorem dX5_lock_51 : decode cX5_lock 51 = .ok (.iconst 0, 1) := by decide +kernel
theorem dX5_lock_52 : decode cX5_lock 52 = .ok (.ireturn, 1) := by decide +kernel
theorem dX5_lock_53 : decode cX5_lock 53 = .ok (.aload_n 0, 1) := by decide +kernel
theorem dX5_lock_54 : decode cX5_lock 54 = .ok (.getfield 12, 3) := by decide +kernel
theorem dX5_lock_57 : decode cX5_lock 57 = .ok (.iload_n 1, 1) := by decide +kernel
theorem dX5_lock_58 : decode cX5_lock 58 = .ok (.invokevirtual 98, 3) := by decide +kernel
theorem dX5_lock_61 : decode cX5_lock 61 = .ok (.iconst 1, 1) := by decide +kernel
theorem dX5_lock_62 : decode cX5_lock 62 = .ok (.ireturn, 1) := by decide +kernel
theorem dX5_ring_0 : decode cX5_ring 0 = .ok (.iload_n 1, 1) := by decide +kernel
theorem dX5_ring_1 : decode cX5_ring 1 = .ok (.ifCond .lt 9, 3) := by decide +kernel
theorem dX5_ring_4 : decode cX5_ring 4 = .ok (.iload_n 1, 1) := by decide +kernel
theorem dX5_ring_5 : decode cX5_ring 5 = .ok (.bipush 16, 2) := by decide +kernel
theorem dX5_ring_7 : decode cX5_ring 7 = .ok (.if_icmp .lt 9, 3) := by decide +kernel
theorem dX5_ring_10 : decode cX5_ring 10 = .ok (.aload_n 0, 1) := by decide +kernel
theorem dX5_ring_11 : decode cX5_ring 11 = .ok (.iconst 1, 1) := by decide +kernel
theorem dX5_ring_12 : decode cX5_ring 12 = .ok (.invokevirtual 43, 3) := by decide +kernel
theorem dX5_ring_15 : decode cX5_ring 15 = .ok (.ireturn, 1) := by decide +kernel
theorem dX5_ring_16 : decode cX5_ring 16 = .ok (.aload_n 0, 1) := by decide +kernel
theorem dX5_ring_17 : decode cX5_ring 17 = .ok (.bipush 6, 2) := by decide +kernel
theorem dX5_ring_19 : decode cX5_ring 19 = .ok (.iload_n 1, 1) := by decide +kernel
theorem dX5_ring_20 : decode cX5_ring 20 = .ok (.i2l, 1) := by decide +kernel
theorem dX5_ring_21 : decode cX5_ring 21 = .ok (.lconst 0, 1) := by decide +kernel
theorem dX5_ring_22 : decode cX5_ring 22 = .ok (.lconst 0, 1) := by decide +kernel
theorem dX5_ring_23 : decode cX5_ring 23 = .ok (.invokevirtual 53, 3) := by decide +kernel
theorem dX5_ring_26 : decode cX5_ring 26 = .ok (.ifCond .eq 14, 3) := by decide +kernel
theorem dX5_ring_29 : decode cX5_ring 29 = .ok (.aload_n 0, 1) := by decide +kernel
theorem dX5_ring_30 : decode cX5_ring 30 = .ok (.getfield 12, 3) := by decide +kernel
theorem dX5_ring_33 : decode cX5_ring 33 = .ok (.iload_n 1, 1) := by decide +kernel
theorem dX5_ring_34 : decode cX5_ring 34 = .ok (.invokevirtual 102, 3) := by decide +kernel
theorem dX5_ring_37 : decode cX5_ring 37 = .ok (.goto 4, 3) := by decide +kernel
theorem dX5_ring_40 : decode cX5_ring 40 = .ok (.iconst (-1), 1) := by decide +kernel
theorem dX5_ring_41 : decode cX5_ring 41 = .ok (.ireturn, 1) := by decide +kernel
theorem dX5_run_0 : decode cX5_run 0 = .ok (.iload_n 1, 1) := by decide +kernel
theorem dX5_run_1 : decode cX5_run 1 = .ok (.ifCond .lt 10, 3) := by decide +kernel
theorem dX5_run_4 : decode cX5_run 4 = .ok (.iload_n 1, 1) := by decide +kernel
theorem dX5_run_5 : decode cX5_run 5 = .ok (.sipush 1000, 3) := by decide +kernel
theorem dX5_run_8 : decode cX5_run 8 = .ok (.if_icmp .le 9, 3) := by decide +kernel
theorem dX5_run_11 : decode cX5_run 11 = .ok (.aload_n 0, 1) := by decide +kernel
theorem dX5_run_12 : decode cX5_run 12 = .ok (.iconst 1, 1) := by decide +kernel
theorem dX5_run_13 : decode cX5_run 13 = .ok (.invokevirtual 43, 3) := by decide +kernel
theorem dX5_run_16 : decode cX5_run 16 = .ok (.ireturn, 1) := by decide +kernel
theorem dX5_run_17 : decode cX5_run 17 = .ok (.aload_n 0, 1) := by decide +kernel
theorem dX5_run_18 : decode cX5_run 18 = .ok (.bipush 7, 2) := by decide +kernel
theorem dX5_run_20 : decode cX5_run 20 = .ok (.iload_n 1, 1) := by decide +kernel
theorem dX5_run_21 : decode cX5_run 21 = .ok (.i2l, 1) := by decide +kernel
theorem dX5_run_22 : decode cX5_run 22 = .ok (.lconst 0, 1) := by decide +kernel
theorem dX5_run_23 : decode cX5_run 23 = .ok (.lconst 0, 1) := by decide +kernel
theorem dX5_run_24 : decode cX5_run 24 = .ok (.invokevirtual 53, 3) := by decide +kernel
theorem dX5_run_27 : decode cX5_run 27 = .ok (.ifCond .eq 14, 3) := by decide +kernel
theorem dX5_run_30 : decode cX5_run 30 = .ok (.aload_n 0, 1) := by decide +kernel
theorem dX5_run_31 : decode cX5_run 31 = .ok (.getfield 12, 3) := by decide +kernel
theorem dX5_run_34 : decode cX5_run 34 = .ok (.iload_n 1, 1) := by decide +kernel
theorem dX5_run_35 : decode cX5_run 35 = .ok (.invokevirtual 105, 3) := by decide +kernel
theorem dX5_run_38 : decode cX5_run 38 = .ok (.goto 4, 3) := by decide +kernel
theorem dX5_run_41 : decode cX5_run 41 = .ok (.iconst (-1), 1) := by decide +kernel
theorem dX5_run_42 : decode cX5_run 42 = .ok (.ireturn, 1) := by decide +kernel
theorem dX5_chosen_0 : decode cX5_chosen 0 = .ok (.iload_n 1, 1) := by decide +kernel
theorem dX5_chosen_1 : decode cX5_chosen 1 = .ok (.ifCond .lt 20, 3) := by decide +kernel
theorem dX5_chosen_4 : decode cX5_chosen 4 = .ok (.iload_n 1, 1) := by decide +kernel
theorem dX5_chosen_5 : decode cX5_chosen 5 = .ok (.iconst 4, 1) := by decide +kernel
theorem dX5_chosen_6 : decode cX5_chosen 6 = .ok (.if_icmp .ge 15, 3) := by decide +kernel
theorem dX5_chosen_9 : decode cX5_chosen 9 = .ok (.aload_n 0, 1) := by decide +kernel
theorem dX5_chosen_10 : decode cX5_chosen 10 = .ok (.getfield 12, 3) := by decide +kernel
theorem dX5_chosen_13 : decode cX5_chosen 13 = .ok (.getfield 108, 3) := by decide +kernel
theorem dX5_chosen_16 : decode cX5_chosen 16 = .ok (.iload_n 1, 1) := by decide +kernel
theorem dX5_chosen_17 : decode cX5_chosen 17 = .ok (.iaload, 1) := by decide +kernel
theorem dX5_chosen_18 : decode cX5_chosen 18 = .ok (.goto 4, 3) := by decide +kernel
theorem dX5_chosen_21 : decode cX5_chosen 21 = .ok (.iconst (-1), 1) := by decide +kernel
theorem dX5_chosen_22 : decode cX5_chosen 22 = .ok (.ireturn, 1) := by decide +kernel
theorem dX5_about_0 : decode cX5_about 0 = .ok (.aload_n 0, 1) := by decide +kernel
theorem dX5_about_1 : decode cX5_about 1 = .ok (.getfield 12, 3) := by decide +kernel
theorem dX5_about_4 : decode cX5_about 4 = .ok (.iload_n 1, 1) := by decide +kernel
theorem dX5_about_5 : decode cX5_about 5 = .ok (.invokevirtual 112, 3) := by decide +kernel
theorem dX5_about_8 : decode cX5_about 8 = .ok (.astore_n 3, 1) := by decide +kernel
theorem dX5_about_9 : decode cX5_about 9 = .ok (.aload_n 3, 1) := by decide +kernel
theorem dX5_about_10 : decode cX5_about 10 = .ok (.ifnonnull 7, 3) := by decide +kernel
theorem dX5_about_13 : decode cX5_about 13 = .ok (.iconst (-1), 1) := by decide +kernel
theorem dX5_about_14 : decode cX5_about 14 = .ok (.goto 8, 3) := by decide +kernel
theorem dX5_about_17 : decode cX5_about 17 = .ok (.aload_n 3, 1) := by decide +kernel
theorem dX5_about_18 : decode cX5_about 18 = .ok (.iload_n 2, 1) := by decide +kernel
theorem dX5_about_19 : decode cX5_about 19 = .ok (.invokevirtual 115, 3) := by decide +kernel
theorem dX5_about_22 : decode cX5_about 22 = .ok (.ireturn, 1) := by decide +kernel
theorem dX5_virtual_0 : decode cX5_virtual 0 = .ok (.aload_n 0, 1) := by decide +kernel
theorem dX5_virtual_1 : decode cX5_virtual 1 = .ok (.getfield 12, 3) := by decide +kernel
theorem dX5_virtual_4 : decode cX5_virtual 4 = .ok (.iload_n 1, 1) := by decide +kernel
theorem dX5_virtual_5 : decode cX5_virtual 5 = .ok (.invokevirtual 112, 3) := by decide +kernel
theorem dX5_virtual_8 : decode cX5_virtual 8 = .ok (.astore_n 2, 1) := by decide +kernel
theorem dX5_virtual_9 : decode cX5_virtual 9 = .ok (.aload_n 2, 1) := by decide +kernel
theorem dX5_virtual_10 : decode cX5_virtual 10 = .ok (.ifnonnull 9, 3) := by decide +kernel
theorem dX5_virtual_13 : decode cX5_virtual 13 = .ok (.ldc2_w 118, 3) := by decide +kernel
theorem dX5_virtual_16 : decode cX5_virtual 16 = .ok (.goto 7, 3) := by decide +kernel
theorem dX5_virtual_19 : decode cX5_virtual 19 = .ok (.aload_n 2, 1) := by decide +kernel
theorem dX5_virtual_20 : decode cX5_virtual 20 = .ok (.getfield 120, 3) := by decide +kernel
theorem dX5_virtual_23 : decode cX5_virtual 23 = .ok (.lreturn, 1) := by decide +kernel
theorem dX5_small_0 : decode cX5_small 0 = .ok (.aload_n 0, 1) := by decide +kernel
theorem dX5_small_1 : decode cX5_small 1 = .ok (.getfield 12, 3) := by decide +kernel
theorem dX5_small_4 : decode cX5_small 4 = .ok (.iload_n 1, 1) := by decide +kernel
theorem dX5_small_5 : decode cX5_small 5 = .ok (.invokevirtual 112, 3) := by decide +kernel
theorem dX5_small_8 : decode cX5_small 8 = .ok (.astore_n 3, 1) := by decide +kernel
theorem dX5_small_9 : decode cX5_small 9 = .ok (.aload_n 3, 1) := by decide +kernel
theorem dX5_small_10 : decode cX5_small 10 = .ok (.ifnonnull 7, 3) := by decide +kernel
theorem dX5_small_13 : decode cX5_small 13 = .ok (.iconst 0, 1) := by decide +kernel
theorem dX5_small_14 : decode cX5_small 14 = .ok (.goto 8, 3) := by decide +kernel
theorem dX5_small_17 : decode cX5_small 17 = .ok (.aload_n 3, 1) := by decide +kernel
theorem dX5_small_18 : decode cX5_small 18 = .ok (.iload_n 2, 1) := by decide +kernel
theorem dX5_small_19 : decode cX5_small 19 = .ok (.invokevirtual 124, 3) := by decide +kernel
theorem dX5_small_22 : decode cX5_small 22 = .ok (.ireturn, 1) := by decide +kernel
theorem dX5_standing_0 : decode cX5_standing 0 = .ok (.aload_n 0, 1) := by decide +kernel
theorem dX5_standing_1 : decode cX5_standing 1 = .ok (.getfield 12, 3) := by decide +kernel
theorem dX5_standing_4 : decode cX5_standing 4 = .ok (.iload_n 1, 1) := by decide +kernel
theorem dX5_standing_5 : decode cX5_standing 5 = .ok (.invokevirtual 72, 3) := by decide +kernel
theorem dX5_standing_8 : decode cX5_standing 8 = .ok (.astore_n 3, 1) := by decide +kernel
theorem dX5_standing_9 : decode cX5_standing 9 = .ok (.aload_n 3, 1) := by decide +kernel
theorem dX5_standing_10 : decode cX5_standing 10 = .ok (.ifnonnull 7, 3) := by decide +kernel
theorem dX5_standing_13 : decode cX5_standing 13 = .ok (.ldc2_w 118, 3) := by decide +kernel
theorem dX5_standing_16 : decode cX5_standing 16 = .ok (.lreturn, 1) := by decide +kernel
theorem dX5_standing_17 : decode cX5_standing 17 = .ok (.aload_n 0, 1) := by decide +kernel
theorem dX5_standing_18 : decode cX5_standing 18 = .ok (.getfield 12, 3) := by decide +kernel
theorem dX5_standing_21 : decode cX5_standing 21 = .ok (.invokevirtual 127, 3) := by decide +kernel
theorem dX5_standing_24 : decode cX5_standing 24 = .ok (.iload_n 2, 1) := by decide +kernel
theorem dX5_standing_25 : decode cX5_standing 25 = .ok (.tableswitch 53 0 2 #[27, 36, 44], 27) := by decide +kernel
theorem dX5_standing_52 : decode cX5_standing 52 = .ok (.aload_n 3, 1) := by decide +kernel
theorem dX5_standing_53 : decode cX5_standing 53 = .ok (.getfield 130, 3) := by decide +kernel
theorem dX5_standing_56 : decode cX5_standing 56 = .ok (.invokestatic 133, 3) := by decide +kernel
theorem dX5_standing_59 : decode cX5_standing 59 = .ok (.i2l, 1) := by decide +kernel
theorem dX5_standing_60 : decode cX5_standing 60 = .ok (.lreturn, 1) := by decide +kernel
theorem dX5_standing_61 : decode cX5_standing 61 = .ok (.aload_n 3, 1) := by decide +kernel
theorem dX5_standing_62 : decode cX5_standing 62 = .ok (.getfield 130, 3) := by decide +kernel
theorem dX5_standing_65 : decode cX5_standing 65 = .ok (.invokestatic 137, 3) := by decide +kernel
theorem dX5_standing_68 : decode cX5_standing 68 = .ok (.lreturn, 1) := by decide +kernel
theorem dX5_standing_69 : decode cX5_standing 69 = .ok (.aload_n 3, 1) := by decide +kernel
theorem dX5_standing_70 : decode cX5_standing 70 = .ok (.getfield 130, 3) := by decide +kernel
theorem dX5_standing_73 : decode cX5_standing 73 = .ok (.invokestatic 141, 3) := by decide +kernel
theorem dX5_standing_76 : decode cX5_standing 76 = .ok (.i2l, 1) := by decide +kernel
theorem dX5_standing_77 : decode cX5_standing 77 = .ok (.lreturn, 1) := by decide +kernel
theorem dX5_standing_78 : decode cX5_standing 78 = .ok (.ldc2_w 118, 3) := by decide +kernel
theorem dX5_standing_81 : decode cX5_standing 81 = .ok (.lreturn, 1) := by decide +kernel
theorem dX5_holder_0 : decode cX5_holder 0 = .ok (.aload_n 0, 1) := by decide +kernel
theorem dX5_holder_1 : decode cX5_holder 1 = .ok (.getfield 12, 3) := by decide +kernel
theorem dX5_holder_4 : decode cX5_holder 4 = .ok (.iload_n 1, 1) := by decide +kernel
theorem dX5_holder_5 : decode cX5_holder 5 = .ok (.invokevirtual 95, 3) := by decide +kernel
theorem dX5_holder_8 : decode cX5_holder 8 = .ok (.ireturn, 1) := by decide +kernel
theorem dX5_ringed_0 : decode cX5_ringed 0 = .ok (.iload_n 1, 1) := by decide +kernel
theorem dX5_ringed_1 : decode cX5_ringed 1 = .ok (.ifCond .lt 26, 3) := by decide +kernel
theorem dX5_ringed_4 : decode cX5_ringed 4 = .ok (.iload_n 1, 1) := by decide +kernel
theorem dX5_ringed_5 : decode cX5_ringed 5 = .ok (.aload_n 0, 1) := by decide +kernel
theorem dX5_ringed_6 : decode cX5_ringed 6 = .ok (.getfield 12, 3) := by decide +kernel
theorem dX5_ringed_9 : decode cX5_ringed 9 = .ok (.getfield 144, 3) := by decide +kernel
theorem dX5_ringed_12 : decode cX5_ringed 12 = .ok (.if_icmp .ge 15, 3) := by decide +kernel
theorem dX5_ringed_15 : decode cX5_ringed 15 = .ok (.aload_n 0, 1) := by decide +kernel
theorem dX5_ringed_16 : decode cX5_ringed 16 = .ok (.getfield 12, 3) := by decide +kernel
theorem dX5_ringed_19 : decode cX5_ringed 19 = .ok (.getfield 147, 3) := by decide +kernel
theorem dX5_ringed_22 : decode cX5_ringed 22 = .ok (.iload_n 1, 1) := by decide +kernel
theorem dX5_ringed_23 : decode cX5_ringed 23 = .ok (.iaload, 1) := by decide +kernel
theorem dX5_ringed_24 : decode cX5_ringed 24 = .ok (.goto 4, 3) := by decide +kernel
theorem dX5_ringed_27 : decode cX5_ringed 27 = .ok (.iconst (-1), 1) := by decide +kernel
theorem dX5_ringed_28 : decode cX5_ringed 28 = .ok (.ireturn, 1) := by decide +kernel
theorem dX5_row_0 : decode cX5_row 0 = .ok (.aload_n 0, 1) := by decide +kernel
theorem dX5_row_1 : decode cX5_row 1 = .ok (.getfield 12, 3) := by decide +kernel
theorem dX5_row_4 : decode cX5_row 4 = .ok (.getfield 150, 3) := by decide +kernel
theorem dX5_row_7 : decode cX5_row 7 = .ok (.iload_n 1, 1) := by decide +kernel
theorem dX5_row_8 : decode cX5_row 8 = .ok (.iload_n 2, 1) := by decide +kernel
theorem dX5_row_9 : decode cX5_row 9 = .ok (.invokevirtual 154, 3) := by decide +kernel
theorem dX5_row_12 : decode cX5_row 12 = .ok (.ifCond .eq 18, 3) := by decide +kernel
theorem dX5_row_15 : decode cX5_row 15 = .ok (.aload_n 0, 1) := by decide +kernel
theorem dX5_row_16 : decode cX5_row 16 = .ok (.getfield 12, 3) := by decide +kernel
theorem dX5_row_19 : decode cX5_row 19 = .ok (.getfield 150, 3) := by decide +kernel
theorem dX5_row_22 : decode cX5_row 22 = .ok (.iload_n 1, 1) := by decide +kernel
theorem dX5_row_23 : decode cX5_row 23 = .ok (.iload_n 2, 1) := by decide +kernel
theorem dX5_row_24 : decode cX5_row 24 = .ok (.invokevirtual 160, 3) := by decide +kernel
theorem dX5_row_27 : decode cX5_row 27 = .ok (.goto 4, 3) := by decide +kernel
theorem dX5_row_30 : decode cX5_row 30 = .ok (.iconst (-1), 1) := by decide +kernel
theorem dX5_row_31 : decode cX5_row 31 = .ok (.ireturn, 1) := by decide +kernel
theorem dX5_forge_0 : decode cX5_forge 0 = .ok (.aload_n 0, 1) := by decide +kernel
theorem dX5_forge_1 : decode cX5_forge 1 = .ok (.getfield 12, 3) := by decide +kernel
theorem dX5_forge_4 : decode cX5_forge 4 = .ok (.getfield 150, 3) := by decide +kernel
theorem dX5_forge_7 : decode cX5_forge 7 = .ok (.iload_n 1, 1) := by decide +kernel
theorem dX5_forge_8 : decode cX5_forge 8 = .ok (.iload_n 2, 1) := by decide +kernel
theorem dX5_forge_9 : decode cX5_forge 9 = .ok (.invokevirtual 154, 3) := by decide +kernel
theorem dX5_forge_12 : decode cX5_forge 12 = .ok (.ifCond .ne 11, 3) := by decide +kernel
theorem dX5_forge_15 : decode cX5_forge 15 = .ok (.aload_n 0, 1) := by decide +kernel
theorem dX5_forge_16 : decode cX5_forge 16 = .ok (.iconst 1, 1) := by decide +kernel
theorem dX5_forge_17 : decode cX5_forge 17 = .ok (.invokevirtual 43, 3) := by decide +kernel
theorem dX5_forge_20 : decode cX5_forge 20 = .ok (.pop, 1) := by decide +kernel
theorem dX5_forge_21 : decode cX5_forge 21 = .ok (.iconst 0, 1) := by decide +kernel
theorem dX5_forge_22 : decode cX5_forge 22 = .ok (.ireturn, 1) := by decide +kernel
theorem dX5_forge_23 : decode cX5_forge 23 = .ok (.aload_n 0, 1) := by decide +kernel
theorem dX5_forge_24 : decode cX5_forge 24 = .ok (.getfield 12, 3) := by decide +kernel
theorem dX5_forge_27 : decode cX5_forge 27 = .ok (.getfield 150, 3) := by decide +kernel
theorem dX5_forge_30 : decode cX5_forge 30 = .ok (.iload_n 1, 1) := by decide +kernel
theorem dX5_forge_31 : decode cX5_forge 31 = .ok (.iload_n 2, 1) := by decide +kernel
theorem dX5_forge_32 : decode cX5_forge 32 = .ok (.iload_n 3, 1) := by decide +kernel
theorem dX5_forge_33 : decode cX5_forge 33 = .ok (.invokevirtual 164, 3) := by decide +kernel
theorem dX5_forge_36 : decode cX5_forge 36 = .ok (.aload_n 0, 1) := by decide +kernel
theorem dX5_forge_37 : decode cX5_forge 37 = .ok (.iconst 0, 1) := by decide +kernel
theorem dX5_forge_38 : decode cX5_forge 38 = .ok (.putfield 32, 3) := by decide +kernel
theorem dX5_forge_41 : decode cX5_forge 41 = .ok (.iconst 1, 1) := by decide +kernel
theorem dX5_forge_42 : decode cX5_forge 42 = .ok (.ireturn, 1) := by decide +kernel
theorem dX5_check_0 : decode cX5_check 0 = .ok (.aload_n 0, 1) := by decide +kernel
theorem dX5_check_1 : decode cX5_check 1 = .ok (.getfield 23, 3) := by decide +kernel
theorem dX5_check_4 : decode cX5_check 4 = .ok (.ifnonnull 14, 3) := by decide +kernel
theorem dX5_check_7 : decode cX5_check 7 = .ok (.aload_n 0, 1) := by decide +kernel
theorem dX5_check_8 : decode cX5_check 8 = .ok (.new 9, 3) := by decide +kernel
theorem dX5_check_11 : decode cX5_check 11 = .ok (.dup, 1) := by decide +kernel
theorem dX5_check_12 : decode cX5_check 12 = .ok (.invokespecial 11, 3) := by decide +kernel
theorem dX5_check_15 : decode cX5_check 15 = .ok (.putfield 23, 3) := by decide +kernel
theorem dX5_check_18 : decode cX5_check 18 = .ok (.aload_n 0, 1) := by decide +kernel
theorem dX5_check_19 : decode cX5_check 19 = .ok (.getfield 23, 3) := by decide +kernel
theorem dX5_check_22 : decode cX5_check 22 = .ok (.invokevirtual 167, 3) := by decide +kernel
theorem dX5_check_25 : decode cX5_check 25 = .ok (.iconst 0, 1) := by decide +kernel
theorem dX5_check_26 : decode cX5_check 26 = .ok (.istore_n 1, 1) := by decide +kernel
theorem dX5_check_27 : decode cX5_check 27 = .ok (.iload_n 1, 1) := by decide +kernel
theorem dX5_check_28 : decode cX5_check 28 = .ok (.aload_n 0, 1) := by decide +kernel
theorem dX5_check_29 : decode cX5_check 29 = .ok (.getfield 19, 3) := by decide +kernel
theorem dX5_check_32 : decode cX5_check 32 = .ok (.getfield 170, 3) := by decide +kernel
theorem dX5_check_35 : decode cX5_check 35 = .ok (.if_icmp .ge 18, 3) := by decide +kernel
theorem dX5_check_38 : decode cX5_check 38 = .ok (.aload_n 0, 1) := by decide +kernel
theorem dX5_check_39 : decode cX5_check 39 = .ok (.iload_n 1, 1) := by decide +kernel
theorem dX5_check_40 : decode cX5_check 40 = .ok (.aload_n 0, 1) := by decide +kernel
theorem dX5_check_41 : decode cX5_check 41 = .ok (.getfield 23, 3) := by decide +kernel
theorem dX5_check_44 : decode cX5_check 44 = .ok (.invokevirtual 173, 3) := by decide +kernel
theorem dX5_check_47 : decode cX5_check 47 = .ok (.iinc 1 1, 3) := by decide +kernel
theorem dX5_check_50 : decode cX5_check 50 = .ok (.goto (-23), 3) := by decide +kernel
theorem dX5_check_53 : decode cX5_check 53 = .ok (.aload_n 0, 1) := by decide +kernel
theorem dX5_check_54 : decode cX5_check 54 = .ok (.getfield 12, 3) := by decide +kernel
theorem dX5_check_57 : decode cX5_check 57 = .ok (.getfield 150, 3) := by decide +kernel
theorem dX5_check_60 : decode cX5_check 60 = .ok (.aload_n 0, 1) := by decide +kernel
theorem dX5_check_61 : decode cX5_check 61 = .ok (.getfield 23, 3) := by decide +kernel
theorem dX5_check_64 : decode cX5_check 64 = .ok (.getfield 150, 3) := by decide +kernel
theorem dX5_check_67 : decode cX5_check 67 = .ok (.invokevirtual 177, 3) := by decide +kernel
theorem dX5_check_70 : decode cX5_check 70 = .ok (.istore_n 1, 1) := by decide +kernel
theorem dX5_check_71 : decode cX5_check 71 = .ok (.aload_n 0, 1) := by decide +kernel
theorem dX5_check_72 : decode cX5_check 72 = .ok (.aload_n 0, 1) := by decide +kernel
theorem dX5_check_73 : decode cX5_check 73 = .ok (.getfield 23, 3) := by decide +kernel
theorem dX5_check_76 : decode cX5_check 76 = .ok (.getfield 150, 3) := by decide +kernel
theorem dX5_check_79 : decode cX5_check 79 = .ok (.iload_n 1, 1) := by decide +kernel
theorem dX5_check_80 : decode cX5_check 80 = .ok (.iconst 0, 1) := by decide +kernel
theorem dX5_check_81 : decode cX5_check 81 = .ok (.invokevirtual 154, 3) := by decide +kernel
theorem dX5_check_84 : decode cX5_check 84 = .ok (.ifCond .eq 18, 3) := by decide +kernel
theorem dX5_check_87 : decode cX5_check 87 = .ok (.aload_n 0, 1) := by decide +kernel
theorem dX5_check_88 : decode cX5_check 88 = .ok (.getfield 23, 3) := by decide +kernel
theorem dX5_check_91 : decode cX5_check 91 = .ok (.getfield 150, 3) := by decide +kernel
theorem dX5_check_94 : decode cX5_check 94 = .ok (.iload_n 1, 1) := by decide +kernel
theorem dX5_check_95 : decode cX5_check 95 = .ok (.iconst 0, 1) := by decide +kernel
theorem dX5_check_96 : decode cX5_check 96 = .ok (.invokevirtual 160, 3) := by decide +kernel
theorem dX5_check_99 : decode cX5_check 99 = .ok (.goto 10, 3) := by decide +kernel
theorem dX5_check_102 : decode cX5_check 102 = .ok (.aload_n 0, 1) := by decide +kernel
theorem dX5_check_103 : decode cX5_check 103 = .ok (.getfield 23, 3) := by decide +kernel
theorem dX5_check_106 : decode cX5_check 106 = .ok (.getfield 85, 3) := by decide +kernel
theorem dX5_check_109 : decode cX5_check 109 = .ok (.putfield 36, 3) := by decide +kernel
theorem dX5_check_112 : decode cX5_check 112 = .ok (.iload_n 1, 1) := by decide +kernel
theorem dX5_check_113 : decode cX5_check 113 = .ok (.ireturn, 1) := by decide +kernel
theorem dX5_checkedTo_0 : decode cX5_checkedTo 0 = .ok (.aload_n 0, 1) := by decide +kernel
theorem dX5_checkedTo_1 : decode cX5_checkedTo 1 = .ok (.getfield 36, 3) := by decide +kernel
theorem dX5_checkedTo_4 : decode cX5_checkedTo 4 = .ok (.ireturn, 1) := by decide +kernel
theorem dX5_bound_0 : decode cX5_bound 0 = .ok (.aload_n 0, 1) := by decide +kernel
theorem dX5_bound_1 : decode cX5_bound 1 = .ok (.getfield 12, 3) := by decide +kernel
theorem dX5_bound_4 : decode cX5_bound 4 = .ok (.iload_n 1, 1) := by decide +kernel
theorem dX5_bound_5 : decode cX5_bound 5 = .ok (.invokevirtual 112, 3) := by decide +kernel
theorem dX5_bound_8 : decode cX5_bound 8 = .ok (.astore_n 2, 1) := by decide +kernel
theorem dX5_bound_9 : decode cX5_bound 9 = .ok (.aload_n 2, 1) := by decide +kernel
theorem dX5_bound_10 : decode cX5_bound 10 = .ok (.ifnull 10, 3) := by decide +kernel
theorem dX5_bound_13 : decode cX5_bound 13 = .ok (.aload_n 2, 1) := by decide +kernel
theorem dX5_bound_14 : decode cX5_bound 14 = .ok (.getfield 181, 3) := by decide +kernel
theorem dX5_bound_17 : decode cX5_bound 17 = .ok (.ifCond .eq 9, 3) := by decide +kernel
theorem dX5_bound_20 : decode cX5_bound 20 = .ok (.ldc2_w 118, 3) := by decide +kernel
theorem dX5_bound_23 : decode cX5_bound 23 = .ok (.goto 11, 3) := by decide +kernel
theorem dX5_bound_26 : decode cX5_bound 26 = .ok (.aload_n 0, 1) := by decide +kernel
theorem dX5_bound_27 : decode cX5_bound 27 = .ok (.getfield 12, 3) := by decide +kernel
theorem dX5_bound_30 : decode cX5_bound 30 = .ok (.aload_n 2, 1) := by decide +kernel
theorem dX5_bound_31 : decode cX5_bound 31 = .ok (.invokevirtual 184, 3) := by decide +kernel
theorem dX5_bound_34 : decode cX5_bound 34 = .ok (.lreturn, 1) := by decide +kernel
theorem dX5_trace_0 : decode cX5_trace 0 = .ok (.iload_n 1, 1) := by decide +kernel
theorem dX5_trace_1 : decode cX5_trace 1 = .ok (.ifCond .lt 21, 3) := by decide +kernel
theorem dX5_trace_4 : decode cX5_trace 4 = .ok (.iload_n 1, 1) := by decide +kernel
theorem dX5_trace_5 : decode cX5_trace 5 = .ok (.bipush 12, 2) := by decide +kernel
theorem dX5_trace_7 : decode cX5_trace 7 = .ok (.if_icmp .ge 15, 3) := by decide +kernel
theorem dX5_trace_10 : decode cX5_trace 10 = .ok (.aload_n 0, 1) := by decide +kernel
theorem dX5_trace_11 : decode cX5_trace 11 = .ok (.getfield 12, 3) := by decide +kernel
theorem dX5_trace_14 : decode cX5_trace 14 = .ok (.getfield 188, 3) := by decide +kernel
theorem dX5_trace_17 : decode cX5_trace 17 = .ok (.iload_n 1, 1) := by decide +kernel
theorem dX5_trace_18 : decode cX5_trace 18 = .ok (.iaload, 1) := by decide +kernel
theorem dX5_trace_19 : decode cX5_trace 19 = .ok (.goto 4, 3) := by decide +kernel
theorem dX5_trace_22 : decode cX5_trace 22 = .ok (.iconst (-1), 1) := by decide +kernel
theorem dX5_trace_23 : decode cX5_trace 23 = .ok (.ireturn, 1) := by decide +kernel
theorem dX5_count_0 : decode cX5_count 0 = .ok (.iload_n 1, 1) := by decide +kernel
theorem dX5_count_1 : decode cX5_count 1 = .ok (.tableswitch 124 0 7 #[47, 55, 63, 80, 89, 100, 108, 116], 47) := by decide +kernel
theorem dX5_count_48 : decode cX5_count 48 = .ok (.aload_n 0, 1) := by decide +kernel
theorem dX5_count_49 : decode cX5_count 49 = .ok (.getfield 12, 3) := by decide +kernel
theorem dX5_count_52 : decode cX5_count 52 = .ok (.getfield 85, 3) := by decide +kernel
theorem dX5_count_55 : decode cX5_count 55 = .ok (.ireturn, 1) := by decide +kernel
theorem dX5_count_56 : decode cX5_count 56 = .ok (.aload_n 0, 1) := by decide +kernel
theorem dX5_count_57 : decode cX5_count 57 = .ok (.getfield 12, 3) := by decide +kernel
theorem dX5_count_60 : decode cX5_count 60 = .ok (.getfield 65, 3) := by decide +kernel
theorem dX5_count_63 : decode cX5_count 63 = .ok (.ireturn, 1) := by decide +kernel
theorem dX5_count_64 : decode cX5_count 64 = .ok (.aload_n 0, 1) := by decide +kernel
theorem dX5_count_65 : decode cX5_count 65 = .ok (.getfield 12, 3) := by decide +kernel
theorem dX5_count_68 : decode cX5_count 68 = .ok (.getfield 65, 3) := by decide +kernel
theorem dX5_count_71 : decode cX5_count 71 = .ok (.aload_n 0, 1) := by decide +kernel
theorem dX5_count_72 : decode cX5_count 72 = .ok (.getfield 12, 3) := by decide +kernel
theorem dX5_count_75 : decode cX5_count 75 = .ok (.iconst 4, 1) := by decide +kernel
theorem dX5_count_76 : decode cX5_count 76 = .ok (.invokevirtual 191, 3) := by decide +kernel
theorem dX5_count_79 : decode cX5_count 79 = .ok (.isub, 1) := by decide +kernel
theorem dX5_count_80 : decode cX5_count 80 = .ok (.ireturn, 1) := by decide +kernel
theorem dX5_count_81 : decode cX5_count 81 = .ok (.aload_n 0, 1) := by decide +kernel
theorem dX5_count_82 : decode cX5_count 82 = .ok (.getfield 12, 3) := by decide +kernel
theorem dX5_count_85 : decode cX5_count 85 = .ok (.iconst 0, 1) := by decide +kernel
theorem dX5_count_86 : decode cX5_count 86 = .ok (.invokevirtual 191, 3) := by decide +kernel
theorem dX5_count_89 : decode cX5_count 89 = .ok (.ireturn, 1) := by decide +kernel
theorem dX5_count_90 : decode cX5_count 90 = .ok (.aload_n 0, 1) := by decide +kernel
theorem dX5_count_91 : decode cX5_count 91 = .ok (.getfield 12, 3) := by decide +kernel
theorem dX5_count_94 : decode cX5_count 94 = .ok (.getfield 150, 3) := by decide +kernel
theorem dX5_count_97 : decode cX5_count 97 = .ok (.getfield 194, 3) := by decide +kernel
theorem dX5_count_100 : decode cX5_count 100 = .ok (.ireturn, 1) := by decide +kernel
theorem dX5_count_101 : decode cX5_count 101 = .ok (.aload_n 0, 1) := by decide +kernel
theorem dX5_count_102 : decode cX5_count 102 = .ok (.getfield 12, 3) := by decide +kernel
theorem dX5_count_105 : decode cX5_count 105 = .ok (.getfield 195, 3) := by decide +kernel
theorem dX5_count_108 : decode cX5_count 108 = .ok (.ireturn, 1) := by decide +kernel
theorem dX5_count_109 : decode cX5_count 109 = .ok (.aload_n 0, 1) := by decide +kernel
theorem dX5_count_110 : decode cX5_count 110 = .ok (.getfield 12, 3) := by decide +kernel
theorem dX5_count_113 : decode cX5_count 113 = .ok (.getfield 198, 3) := by decide +kernel
theorem dX5_count_116 : decode cX5_count 116 = .ok (.ireturn, 1) := by decide +kernel
theorem dX5_count_117 : decode cX5_count 117 = .ok (.aload_n 0, 1) := by decide +kernel
theorem dX5_count_118 : decode cX5_count 118 = .ok (.getfield 19, 3) := by decide +kernel
theorem dX5_count_121 : decode cX5_count 121 = .ok (.getfield 170, 3) := by decide +kernel
theorem dX5_count_124 : decode cX5_count 124 = .ok (.ireturn, 1) := by decide +kernel
theorem dX5_count_125 : decode cX5_count 125 = .ok (.iconst (-1), 1) := by decide +kernel
theorem dX5_count_126 : decode cX5_count 126 = .ok (.ireturn, 1) := by decide +kernel
theorem dX5_image_0 : decode cX5_image 0 = .ok (.aload_n 0, 1) := by decide +kernel
theorem dX5_image_1 : decode cX5_image 1 = .ok (.getfield 26, 3) := by decide +kernel
theorem dX5_image_4 : decode cX5_image 4 = .ok (.ifnonnull 14, 3) := by decide +kernel
theorem dX5_image_7 : decode cX5_image 7 = .ok (.aload_n 0, 1) := by decide +kernel
theorem dX5_image_8 : decode cX5_image 8 = .ok (.new 9, 3) := by decide +kernel
theorem dX5_image_11 : decode cX5_image 11 = .ok (.dup, 1) := by decide +kernel
theorem dX5_image_12 : decode cX5_image 12 = .ok (.invokespecial 11, 3) := by decide +kernel
theorem dX5_image_15 : decode cX5_image 15 = .ok (.putfield 26, 3) := by decide +kernel
theorem dX5_image_18 : decode cX5_image 18 = .ok (.aload_n 0, 1) := by decide +kernel
theorem dX5_image_19 : decode cX5_image 19 = .ok (.getfield 29, 3) := by decide +kernel
theorem dX5_image_22 : decode cX5_image 22 = .ok (.ifnonnull 14, 3) := by decide +kernel
theorem dX5_image_25 : decode cX5_image 25 = .ok (.aload_n 0, 1) := by decide +kernel
theorem dX5_image_26 : decode cX5_image 26 = .ok (.new 16, 3) := by decide +kernel
theorem dX5_image_29 : decode cX5_image 29 = .ok (.dup, 1) := by decide +kernel
theorem dX5_image_30 : decode cX5_image 30 = .ok (.invokespecial 18, 3) := by decide +kernel
theorem dX5_image_33 : decode cX5_image 33 = .ok (.putfield 29, 3) := by decide +kernel
theorem dX5_image_36 : decode cX5_image 36 = .ok (.aload_n 0, 1) := by decide +kernel
theorem dX5_image_37 : decode cX5_image 37 = .ok (.getfield 26, 3) := by decide +kernel
theorem dX5_image_40 : decode cX5_image 40 = .ok (.aload_n 0, 1) := by decide +kernel
theorem dX5_image_41 : decode cX5_image 41 = .ok (.getfield 12, 3) := by decide +kernel
theorem dX5_image_44 : decode cX5_image 44 = .ok (.invokevirtual 201, 3) := by decide +kernel
theorem dX5_image_47 : decode cX5_image 47 = .ok (.aload_n 0, 1) := by decide +kernel
theorem dX5_image_48 : decode cX5_image 48 = .ok (.getfield 29, 3) := by decide +kernel
theorem dX5_image_51 : decode cX5_image 51 = .ok (.aload_n 0, 1) := by decide +kernel
theorem dX5_image_52 : decode cX5_image 52 = .ok (.getfield 19, 3) := by decide +kernel
theorem dX5_image_55 : decode cX5_image 55 = .ok (.invokevirtual 205, 3) := by decide +kernel
theorem dX5_image_58 : decode cX5_image 58 = .ok (.aload_n 0, 1) := by decide +kernel
theorem dX5_image_59 : decode cX5_image 59 = .ok (.getfield 26, 3) := by decide +kernel
theorem dX5_image_62 : decode cX5_image 62 = .ok (.invokevirtual 208, 3) := by decide +kernel
theorem dX5_image_65 : decode cX5_image 65 = .ok (.lreturn, 1) := by decide +kernel
theorem dX5_load_0 : decode cX5_load 0 = .ok (.aload_n 0, 1) := by decide +kernel
theorem dX5_load_1 : decode cX5_load 1 = .ok (.getfield 26, 3) := by decide +kernel
theorem dX5_load_4 : decode cX5_load 4 = .ok (.ifnull 10, 3) := by decide +kernel
theorem dX5_load_7 : decode cX5_load 7 = .ok (.aload_n 0, 1) := by decide +kernel
theorem dX5_load_8 : decode cX5_load 8 = .ok (.getfield 29, 3) := by decide +kernel
theorem dX5_load_11 : decode cX5_load 11 = .ok (.ifnonnull 11, 3) := by decide +kernel
theorem dX5_load_14 : decode cX5_load 14 = .ok (.aload_n 0, 1) := by decide +kernel
theorem dX5_load_15 : decode cX5_load 15 = .ok (.iconst 2, 1) := by decide +kernel
theorem dX5_load_16 : decode cX5_load 16 = .ok (.invokevirtual 43, 3) := by decide +kernel
theorem dX5_load_19 : decode cX5_load 19 = .ok (.pop, 1) := by decide +kernel
theorem dX5_load_20 : decode cX5_load 20 = .ok (.iconst 0, 1) := by decide +kernel
theorem dX5_load_21 : decode cX5_load 21 = .ok (.ireturn, 1) := by decide +kernel
theorem dX5_load_22 : decode cX5_load 22 = .ok (.aload_n 0, 1) := by decide +kernel
theorem dX5_load_23 : decode cX5_load 23 = .ok (.getfield 12, 3) := by decide +kernel
theorem dX5_load_26 : decode cX5_load 26 = .ok (.aload_n 0, 1) := by decide +kernel
theorem dX5_load_27 : decode cX5_load 27 = .ok (.getfield 26, 3) := by decide +kernel
theorem dX5_load_30 : decode cX5_load 30 = .ok (.invokevirtual 201, 3) := by decide +kernel
theorem dX5_load_33 : decode cX5_load 33 = .ok (.aload_n 0, 1) := by decide +kernel
theorem dX5_load_34 : decode cX5_load 34 = .ok (.getfield 19, 3) := by decide +kernel
theorem dX5_load_37 : decode cX5_load 37 = .ok (.aload_n 0, 1) := by decide +kernel
theorem dX5_load_38 : decode cX5_load 38 = .ok (.getfield 29, 3) := by decide +kernel
theorem dX5_load_41 : decode cX5_load 41 = .ok (.invokevirtual 205, 3) := by decide +kernel
theorem dX5_load_44 : decode cX5_load 44 = .ok (.aload_n 0, 1) := by decide +kernel
theorem dX5_load_45 : decode cX5_load 45 = .ok (.iconst 0, 1) := by decide +kernel
theorem dX5_load_46 : decode cX5_load 46 = .ok (.putfield 32, 3) := by decide +kernel
theorem dX5_load_49 : decode cX5_load 49 = .ok (.iconst 1, 1) := by decide +kernel
theorem dX5_load_50 : decode cX5_load 50 = .ok (.ireturn, 1) := by decide +kernel
theorem dX5_digest_0 : decode cX5_digest 0 = .ok (.aload_n 0, 1) := by decide +kernel
theorem dX5_digest_1 : decode cX5_digest 1 = .ok (.getfield 12, 3) := by decide +kernel
theorem dX5_digest_4 : decode cX5_digest 4 = .ok (.invokevirtual 208, 3) := by decide +kernel
theorem dX5_digest_7 : decode cX5_digest 7 = .ok (.lreturn, 1) := by decide +kernel
theorem dX5_status_0 : decode cX5_status 0 = .ok (.aload_n 0, 1) := by decide +kernel
theorem dX5_status_1 : decode cX5_status 1 = .ok (.getfield 32, 3) := by decide +kernel
theorem dX5_status_4 : decode cX5_status 4 = .ok (.ireturn, 1) := by decide +kernel
theorem dX5_refused_0 : decode cX5_refused 0 = .ok (.aload_n 0, 1) := by decide +kernel
theorem dX5_refused_1 : decode cX5_refused 1 = .ok (.iload_n 1, 1) := by decide +kernel
theorem dX5_refused_2 : decode cX5_refused 2 = .ok (.putfield 32, 3) := by decide +kernel
theorem dX5_refused_5 : decode cX5_refused 5 = .ok (.iconst (-1), 1) := by decide +kernel
theorem dX5_refused_6 : decode cX5_refused 6 = .ok (.ireturn, 1) := by decide +kernel
theorem dX5_noted_0 : decode cX5_noted 0 = .ok (.aload_n 0, 1) := by decide +kernel
theorem dX5_noted_1 : decode cX5_noted 1 = .ok (.getfield 19, 3) := by decide +kernel
theorem dX5_noted_4 : decode cX5_noted 4 = .ok (.iload_n 1, 1) := by decide +kernel
theorem dX5_noted_5 : decode cX5_noted 5 = .ok (.lload_n 2, 1) := by decide +kernel
theorem dX5_noted_6 : decode cX5_noted 6 = .ok (.lload 4, 2) := by decide +kernel
theorem dX5_noted_8 : decode cX5_noted 8 = .ok (.lload 6, 2) := by decide +kernel
theorem dX5_noted_10 : decode cX5_noted 10 = .ok (.invokevirtual 212, 3) := by decide +kernel
theorem dX5_noted_13 : decode cX5_noted 13 = .ok (.istore 8, 2) := by decide +kernel
theorem dX5_noted_15 : decode cX5_noted 15 = .ok (.aload_n 0, 1) := by decide +kernel
theorem dX5_noted_16 : decode cX5_noted 16 = .ok (.iload 8, 2) := by decide +kernel
theorem dX5_noted_18 : decode cX5_noted 18 = .ok (.ifCond .eq 7, 3) := by decide +kernel
theorem dX5_noted_21 : decode cX5_noted 21 = .ok (.iconst 0, 1) := by decide +kernel
theorem dX5_noted_22 : decode cX5_noted 22 = .ok (.goto 4, 3) := by decide +kernel
theorem dX5_noted_25 : decode cX5_noted 25 = .ok (.iconst 5, 1) := by decide +kernel
theorem dX5_noted_26 : decode cX5_noted 26 = .ok (.putfield 32, 3) := by decide +kernel
theorem dX5_noted_29 : decode cX5_noted 29 = .ok (.iload 8, 2) := by decide +kernel
theorem dX5_noted_31 : decode cX5_noted 31 = .ok (.ireturn, 1) := by decide +kernel
theorem dX5_redo_0 : decode cX5_redo 0 = .ok (.aload_n 0, 1) := by decide +kernel
theorem dX5_redo_1 : decode cX5_redo 1 = .ok (.getfield 19, 3) := by decide +kernel
theorem dX5_redo_4 : decode cX5_redo 4 = .ok (.iload_n 1, 1) := by decide +kernel
theorem dX5_redo_5 : decode cX5_redo 5 = .ok (.iconst 1, 1) := by decide +kernel
theorem dX5_redo_6 : decode cX5_redo 6 = .ok (.invokevirtual 215, 3) := by decide +kernel
theorem dX5_redo_9 : decode cX5_redo 9 = .ok (.l2i, 1) := by decide +kernel
theorem dX5_redo_10 : decode cX5_redo 10 = .ok (.istore_n 3, 1) := by decide +kernel
theorem dX5_redo_11 : decode cX5_redo 11 = .ok (.aload_n 0, 1) := by decide +kernel
theorem dX5_redo_12 : decode cX5_redo 12 = .ok (.getfield 19, 3) := by decide +kernel
theorem dX5_redo_15 : decode cX5_redo 15 = .ok (.iload_n 1, 1) := by decide +kernel
theorem dX5_redo_16 : decode cX5_redo 16 = .ok (.iconst 2, 1) := by decide +kernel
theorem dX5_redo_17 : decode cX5_redo 17 = .ok (.invokevirtual 215, 3) := by decide +kernel
theorem dX5_redo_20 : decode cX5_redo 20 = .ok (.l2i, 1) := by decide +kernel
theorem dX5_redo_21 : decode cX5_redo 21 = .ok (.istore 4, 2) := by decide +kernel
theorem dX5_redo_23 : decode cX5_redo 23 = .ok (.aload_n 0, 1) := by decide +kernel
theorem dX5_redo_24 : decode cX5_redo 24 = .ok (.getfield 19, 3) := by decide +kernel
theorem dX5_redo_27 : decode cX5_redo 27 = .ok (.iload_n 1, 1) := by decide +kernel
theorem dX5_redo_28 : decode cX5_redo 28 = .ok (.iconst 3, 1) := by decide +kernel
theorem dX5_redo_29 : decode cX5_redo 29 = .ok (.invokevirtual 215, 3) := by decide +kernel
theorem dX5_redo_32 : decode cX5_redo 32 = .ok (.l2i, 1) := by decide +kernel
theorem dX5_redo_33 : decode cX5_redo 33 = .ok (.istore 5, 2) := by decide +kernel
theorem dX5_redo_35 : decode cX5_redo 35 = .ok (.aload_n 2, 1) := by decide +kernel
theorem dX5_redo_36 : decode cX5_redo 36 = .ok (.iload_n 3, 1) := by decide +kernel
theorem dX5_redo_37 : decode cX5_redo 37 = .ok (.invokevirtual 112, 3) := by decide +kernel
theorem dX5_redo_40 : decode cX5_redo 40 = .ok (.astore 6, 2) := by decide +kernel
theorem dX5_redo_42 : decode cX5_redo 42 = .ok (.aload_n 2, 1) := by decide +kernel
theorem dX5_redo_43 : decode cX5_redo 43 = .ok (.iload_n 3, 1) := by decide +kernel
theorem dX5_redo_44 : decode cX5_redo 44 = .ok (.invokevirtual 39, 3) := by decide +kernel
theorem dX5_redo_47 : decode cX5_redo 47 = .ok (.astore 7, 2) := by decide +kernel
theorem dX5_redo_49 : decode cX5_redo 49 = .ok (.aload_n 0, 1) := by decide +kernel
theorem dX5_redo_50 : decode cX5_redo 50 = .ok (.getfield 19, 3) := by decide +kernel
theorem dX5_redo_53 : decode cX5_redo 53 = .ok (.iload_n 1, 1) := by decide +kernel
theorem dX5_redo_54 : decode cX5_redo 54 = .ok (.iconst 0, 1) := by decide +kernel
theorem dX5_redo_55 : decode cX5_redo 55 = .ok (.invokevirtual 215, 3) := by decide +kernel
theorem dX5_redo_58 : decode cX5_redo 58 = .ok (.l2i, 1) := by decide +kernel
theorem dX5_redo_59 : decode cX5_redo 59 = .ok (.tableswitch 155 0 7 #[45, 70, 83, 99, 120, 129, 137, 146], 45) := by decide +kernel
theorem dX5_redo_104 : decode cX5_redo 104 = .ok (.aload 7, 2) := by decide +kernel
theorem dX5_redo_106 : decode cX5_redo 106 = .ok (.ifnull 108, 3) := by decide +kernel
theorem dX5_redo_109 : decode cX5_redo 109 = .ok (.aload 7, 2) := by decide +kernel
theorem dX5_redo_111 : decode cX5_redo 111 = .ok (.aload_n 0, 1) := by decide +kernel
theorem dX5_redo_112 : decode cX5_redo 112 = .ok (.getfield 19, 3) := by decide +kernel
theorem dX5_redo_115 : decode cX5_redo 115 = .ok (.iload_n 1, 1) := by decide +kernel
theorem dX5_redo_116 : decode cX5_redo 116 = .ok (.iconst 2, 1) := by decide +kernel
theorem dX5_redo_117 : decode cX5_redo 117 = .ok (.invokevirtual 215, 3) := by decide +kernel
theorem dX5_redo_120 : decode cX5_redo 120 = .ok (.iload 5, 2) := by decide +kernel
theorem dX5_redo_122 : decode cX5_redo 122 = .ok (.invokevirtual 57, 3) := by decide +kernel
theorem dX5_redo_125 : decode cX5_redo 125 = .ok (.pop, 1) := by decide +kernel
theorem dX5_redo_126 : decode cX5_redo 126 = .ok (.goto 88, 3) := by decide +kernel
theorem dX5_redo_129 : decode cX5_redo 129 = .ok (.aload_n 2, 1) := by decide +kernel
theorem dX5_redo_130 : decode cX5_redo 130 = .ok (.iload_n 3, 1) := by decide +kernel
theorem dX5_redo_131 : decode cX5_redo 131 = .ok (.iload 4, 2) := by decide +kernel
theorem dX5_redo_133 : decode cX5_redo 133 = .ok (.iload 5, 2) := by decide +kernel
theorem dX5_redo_135 : decode cX5_redo 135 = .ok (.invokevirtual 68, 3) := by decide +kernel
theorem dX5_redo_138 : decode cX5_redo 138 = .ok (.pop, 1) := by decide +kernel
theorem dX5_redo_139 : decode cX5_redo 139 = .ok (.goto 75, 3) := by decide +kernel
theorem dX5_redo_142 : decode cX5_redo 142 = .ok (.aload 6, 2) := by decide +kernel
theorem dX5_redo_144 : decode cX5_redo 144 = .ok (.ifnull 70, 3) := by decide +kernel
theorem dX5_redo_147 : decode cX5_redo 147 = .ok (.aload 6, 2) := by decide +kernel
theorem dX5_redo_149 : decode cX5_redo 149 = .ok (.iload 4, 2) := by decide +kernel
theorem dX5_redo_151 : decode cX5_redo 151 = .ok (.invokevirtual 76, 3) := by decide +kernel
theorem dX5_redo_154 : decode cX5_redo 154 = .ok (.pop, 1) := by decide +kernel
theorem dX5_redo_155 : decode cX5_redo 155 = .ok (.goto 59, 3) := by decide +kernel
theorem dX5_redo_158 : decode cX5_redo 158 = .ok (.aload 6, 2) := by decide +kernel
theorem dX5_redo_160 : decode cX5_redo 160 = .ok (.ifnull 54, 3) := by decide +kernel
theorem dX5_redo_163 : decode cX5_redo 163 = .ok (.aload 6, 2) := by decide +kernel
theorem dX5_redo_165 : decode cX5_redo 165 = .ok (.iload 4, 2) := by decide +kernel
theorem dX5_redo_167 : decode cX5_redo 167 = .ok (.iload 5, 2) := by decide +kernel
theorem dX5_redo_169 : decode cX5_redo 169 = .ok (.aload_n 2, 1) := by decide +kernel
theorem dX5_redo_170 : decode cX5_redo 170 = .ok (.getfield 85, 3) := by decide +kernel
theorem dX5_redo_173 : decode cX5_redo 173 = .ok (.invokevirtual 88, 3) := by decide +kernel
theorem dX5_redo_176 : decode cX5_redo 176 = .ok (.goto 38, 3) := by decide +kernel
theorem dX5_redo_179 : decode cX5_redo 179 = .ok (.aload_n 2, 1) := by decide +kernel
theorem dX5_redo_180 : decode cX5_redo 180 = .ok (.iload_n 3, 1) := by decide +kernel
theorem dX5_redo_181 : decode cX5_redo 181 = .ok (.invokevirtual 92, 3) := by decide +kernel
theorem dX5_redo_184 : decode cX5_redo 184 = .ok (.pop, 1) := by decide +kernel
theorem dX5_redo_185 : decode cX5_redo 185 = .ok (.goto 29, 3) := by decide +kernel
theorem dX5_redo_188 : decode cX5_redo 188 = .ok (.aload_n 2, 1) := by decide +kernel
theorem dX5_redo_189 : decode cX5_redo 189 = .ok (.iload_n 3, 1) := by decide +kernel
theorem dX5_redo_190 : decode cX5_redo 190 = .ok (.invokevirtual 98, 3) := by decide +kernel
theorem dX5_redo_193 : decode cX5_redo 193 = .ok (.goto 21, 3) := by decide +kernel
theorem dX5_redo_196 : decode cX5_redo 196 = .ok (.aload_n 2, 1) := by decide +kernel
theorem dX5_redo_197 : decode cX5_redo 197 = .ok (.iload_n 3, 1) := by decide +kernel
theorem dX5_redo_198 : decode cX5_redo 198 = .ok (.invokevirtual 102, 3) := by decide +kernel
theorem dX5_redo_201 : decode cX5_redo 201 = .ok (.pop, 1) := by decide +kernel
theorem dX5_redo_202 : decode cX5_redo 202 = .ok (.goto 12, 3) := by decide +kernel
theorem dX5_redo_205 : decode cX5_redo 205 = .ok (.aload_n 2, 1) := by decide +kernel
theorem dX5_redo_206 : decode cX5_redo 206 = .ok (.iload_n 3, 1) := by decide +kernel
theorem dX5_redo_207 : decode cX5_redo 207 = .ok (.invokevirtual 105, 3) := by decide +kernel
theorem dX5_redo_210 : decode cX5_redo 210 = .ok (.pop, 1) := by decide +kernel
theorem dX5_redo_211 : decode cX5_redo 211 = .ok (.goto 3, 3) := by decide +kernel
theorem dX5_redo_214 : decode cX5_redo 214 = .ok (.return_, 1) := by decide +kernel
theorem dX5_isShare_0 : decode cX5_isShare 0 = .ok (.iload_n 0, 1) := by decide +kernel
theorem dX5_isShare_1 : decode cX5_isShare 1 = .ok (.iconst 1, 1) := by decide +kernel
theorem dX5_isShare_2 : decode cX5_isShare 2 = .ok (.if_icmp .lt 14, 3) := by decide +kernel
theorem dX5_isShare_5 : decode cX5_isShare 5 = .ok (.iload_n 0, 1) := by decide +kernel
theorem dX5_isShare_6 : decode cX5_isShare 6 = .ok (.sipush 1000, 3) := by decide +kernel
theorem dX5_isShare_9 : decode cX5_isShare 9 = .ok (.if_icmp .gt 7, 3) := by decide +kernel
theorem dX5_isShare_12 : decode cX5_isShare 12 = .ok (.iconst 1, 1) := by decide +kernel
theorem dX5_isShare_13 : decode cX5_isShare 13 = .ok (.goto 4, 3) := by decide +kernel
theorem dX5_isShare_16 : decode cX5_isShare 16 = .ok (.iconst 0, 1) := by decide +kernel
theorem dX5_isShare_17 : decode cX5_isShare 17 = .ok (.ireturn, 1) := by decide +kernel
theorem dX5_classOf_0 : decode cX5_classOf 0 = .ok (.lload_n 0, 1) := by decide +kernel
theorem dX5_classOf_1 : decode cX5_classOf 1 = .ok (.bipush 48, 2) := by decide +kernel
theorem dX5_classOf_3 : decode cX5_classOf 3 = .ok (.lshr, 1) := by decide +kernel
theorem dX5_classOf_4 : decode cX5_classOf 4 = .ok (.l2i, 1) := by decide +kernel
theorem dX5_classOf_5 : decode cX5_classOf 5 = .ok (.ireturn, 1) := by decide +kernel
theorem dX5_keyOf_0 : decode cX5_keyOf 0 = .ok (.lload_n 0, 1) := by decide +kernel
theorem dX5_keyOf_1 : decode cX5_keyOf 1 = .ok (.bipush 8, 2) := by decide +kernel
theorem dX5_keyOf_3 : decode cX5_keyOf 3 = .ok (.lshr, 1) := by decide +kernel
theorem dX5_keyOf_4 : decode cX5_keyOf 4 = .ok (.ldc2_w 218, 3) := by decide +kernel
theorem dX5_keyOf_7 : decode cX5_keyOf 7 = .ok (.land, 1) := by decide +kernel
theorem dX5_keyOf_8 : decode cX5_keyOf 8 = .ok (.lreturn, 1) := by decide +kernel
theorem dX5_numberOf_0 : decode cX5_numberOf 0 = .ok (.lload_n 0, 1) := by decide +kernel
theorem dX5_numberOf_1 : decode cX5_numberOf 1 = .ok (.ldc2_w 220, 3) := by decide +kernel
theorem dX5_numberOf_4 : decode cX5_numberOf 4 = .ok (.land, 1) := by decide +kernel
theorem dX5_numberOf_5 : decode cX5_numberOf 5 = .ok (.l2i, 1) := by decide +kernel
theorem dX5_numberOf_6 : decode cX5_numberOf 6 = .ok (.ireturn, 1) := by decide +kernel
theorem dJ9_max_7cf53_0 : decode cJ9_max_7cf53 0 = .ok (.iload_n 0, 1) := by decide +kernel
theorem dJ9_max_7cf53_1 : decode cJ9_max_7cf53 1 = .ok (.iload_n 1, 1) := by decide +kernel
theorem dJ9_max_7cf53_2 : decode cJ9_max_7cf53 2 = .ok (.if_icmp .lt 7, 3) := by decide +kernel
theorem dJ9_max_7cf53_5 : decode cJ9_max_7cf53 5 = .ok (.iload_n 0, 1) := by decide +kernel
theorem dJ9_max_7cf53_6 : decode cJ9_max_7cf53 6 = .ok (.goto 4, 3) := by decide +kernel
theorem dJ9_max_7cf53_9 : decode cJ9_max_7cf53 9 = .ok (.iload_n 1, 1) := by decide +kernel
theorem dJ9_max_7cf53_10 : decode cJ9_max_7cf53 10 = .ok (.ireturn, 1) := by decide +kernel
theorem dJ9_max_f86c9_0 : decode cJ9_max_f86c9 0 = .ok (.lload_n 0, 1) := by decide +kernel
theorem dJ9_max_f86c9_1 : decode cJ9_max_f86c9 1 = .ok (.lload_n 2, 1) := by decide +kernel
theorem dJ9_max_f86c9_2 : decode cJ9_max_f86c9 2 = .ok (.lcmp, 1) := by decide +kernel
theorem dJ9_max_f86c9_3 : decode cJ9_max_f86c9 3 = .ok (.ifCond .lt 7, 3) := by decide +kernel
theorem dJ9_max_f86c9_6 : decode cJ9_max_f86c9 6 = .ok (.lload_n 0, 1) := by decide +kernel
theorem dJ9_max_f86c9_7 : decode cJ9_max_f86c9 7 = .ok (.goto 4, 3) := by decide +kernel
theorem dJ9_max_f86c9_10 : decode cJ9_max_f86c9 10 = .ok (.lload_n 2, 1) := by decide +kernel
theorem dJ9_max_f86c9_11 : decode cJ9_max_f86c9 11 = .ok (.lreturn, 1) := by decide +kernel
theorem dJ9_min_7cf53_0 : decode cJ9_min_7cf53 0 = .ok (.iload_n 0, 1) := by decide +kernel
theorem dJ9_min_7cf53_1 : decode cJ9_min_7cf53 1 = .ok (.iload_n 1, 1) := by decide +kernel
theorem dJ9_min_7cf53_2 : decode cJ9_min_7cf53 2 = .ok (.if_icmp .gt 7, 3) := by decide +kernel
theorem dJ9_min_7cf53_5 : decode cJ9_min_7cf53 5 = .ok (.iload_n 0, 1) := by decide +kernel
theorem dJ9_min_7cf53_6 : decode cJ9_min_7cf53 6 = .ok (.goto 4, 3) := by decide +kernel
theorem dJ9_min_7cf53_9 : decode cJ9_min_7cf53 9 = .ok (.iload_n 1, 1) := by decide +kernel
theorem dJ9_min_7cf53_10 : decode cJ9_min_7cf53 10 = .ok (.ireturn, 1) := by decide +kernel
theorem dJ7_fill_53178_0 : decode cJ7_fill_53178 0 = .ok (.iconst 0, 1) := by decide +kernel
theorem dJ7_fill_53178_1 : decode cJ7_fill_53178 1 = .ok (.istore_n 2, 1) := by decide +kernel
theorem dJ7_fill_53178_2 : decode cJ7_fill_53178 2 = .ok (.aload_n 0, 1) := by decide +kernel
theorem dJ7_fill_53178_3 : decode cJ7_fill_53178 3 = .ok (.arraylength, 1) := by decide +kernel
theorem dJ7_fill_53178_4 : decode cJ7_fill_53178 4 = .ok (.istore_n 3, 1) := by decide +kernel
theorem dJ7_fill_53178_5 : decode cJ7_fill_53178 5 = .ok (.iload_n 2, 1) := by decide +kernel
theorem dJ7_fill_53178_6 : decode cJ7_fill_53178 6 = .ok (.iload_n 3, 1) := by decide +kernel
theorem dJ7_fill_53178_7 : decode cJ7_fill_53178 7 = .ok (.if_icmp .ge 13, 3) := by decide +kernel
theorem dJ7_fill_53178_10 : decode cJ7_fill_53178 10 = .ok (.aload_n 0, 1) := by decide +kernel
theorem dJ7_fill_53178_11 : decode cJ7_fill_53178 11 = .ok (.iload_n 2, 1) := by decide +kernel
theorem dJ7_fill_53178_12 : decode cJ7_fill_53178 12 = .ok (.iload_n 1, 1) := by decide +kernel
theorem dJ7_fill_53178_13 : decode cJ7_fill_53178 13 = .ok (.iastore, 1) := by decide +kernel
theorem dJ7_fill_53178_14 : decode cJ7_fill_53178 14 = .ok (.iinc 2 1, 3) := by decide +kernel
theorem dJ7_fill_53178_17 : decode cJ7_fill_53178 17 = .ok (.goto (-12), 3) := by decide +kernel
theorem dJ7_fill_53178_20 : decode cJ7_fill_53178 20 = .ok (.return_, 1) := by decide +kernel
theorem dJ7_fill_fb410_0 : decode cJ7_fill_fb410 0 = .ok (.iconst 0, 1) := by decide +kernel
theorem dJ7_fill_fb410_1 : decode cJ7_fill_fb410 1 = .ok (.istore_n 2, 1) := by decide +kernel
theorem dJ7_fill_fb410_2 : decode cJ7_fill_fb410 2 = .ok (.aload_n 0, 1) := by decide +kernel
theorem dJ7_fill_fb410_3 : decode cJ7_fill_fb410 3 = .ok (.arraylength, 1) := by decide +kernel
theorem dJ7_fill_fb410_4 : decode cJ7_fill_fb410 4 = .ok (.istore_n 3, 1) := by decide +kernel
theorem dJ7_fill_fb410_5 : decode cJ7_fill_fb410 5 = .ok (.iload_n 2, 1) := by decide +kernel
theorem dJ7_fill_fb410_6 : decode cJ7_fill_fb410 6 = .ok (.iload_n 3, 1) := by decide +kernel
theorem dJ7_fill_fb410_7 : decode cJ7_fill_fb410 7 = .ok (.if_icmp .ge 13, 3) := by decide +kernel
theorem dJ7_fill_fb410_10 : decode cJ7_fill_fb410 10 = .ok (.aload_n 0, 1) := by decide +kernel
theorem dJ7_fill_fb410_11 : decode cJ7_fill_fb410 11 = .ok (.iload_n 2, 1) := by decide +kernel
theorem dJ7_fill_fb410_12 : decode cJ7_fill_fb410 12 = .ok (.iload_n 1, 1) := by decide +kernel
theorem dJ7_fill_fb410_13 : decode cJ7_fill_fb410 13 = .ok (.sastore, 1) := by decide +kernel
theorem dJ7_fill_fb410_14 : decode cJ7_fill_fb410 14 = .ok (.iinc 2 1, 3) := by decide +kernel
theorem dJ7_fill_fb410_17 : decode cJ7_fill_fb410 17 = .ok (.goto (-12), 3) := by decide +kernel
theorem dJ7_fill_fb410_20 : decode cJ7_fill_fb410 20 = .ok (.return_, 1) := by decide +kernel
theorem dJ7_copyOf_9075b_0 : decode cJ7_copyOf_9075b 0 = .ok (.iload_n 1, 1) := by decide +kernel
theorem dJ7_copyOf_9075b_1 : decode cJ7_copyOf_9075b 1 = .ok (.aload_n 0, 1) := by decide +kernel
theorem dJ7_copyOf_9075b_2 : decode cJ7_copyOf_9075b 2 = .ok (.arraylength, 1) := by decide +kernel
theorem dJ7_copyOf_9075b_3 : decode cJ7_copyOf_9075b 3 = .ok (.if_icmp .ne 11, 3) := by decide +kernel
theorem dJ7_copyOf_9075b_6 : decode cJ7_copyOf_9075b 6 = .ok (.aload_n 0, 1) := by decide +kernel
theorem dJ7_copyOf_9075b_7 : decode cJ7_copyOf_9075b 7 = .ok (.invokevirtual 310, 3) := by decide +kernel
theorem dJ7_copyOf_9075b_10 : decode cJ7_copyOf_9075b 10 = .ok (.checkcast 311, 3) := by decide +kernel
theorem dJ7_copyOf_9075b_13 : decode cJ7_copyOf_9075b 13 = .ok (.areturn, 1) := by decide +kernel
theorem dJ7_copyOf_9075b_14 : decode cJ7_copyOf_9075b 14 = .ok (.iload_n 1, 1) := by decide +kernel
theorem dJ7_copyOf_9075b_15 : decode cJ7_copyOf_9075b 15 = .ok (.newarray .byte, 2) := by decide +kernel
theorem dJ7_copyOf_9075b_17 : decode cJ7_copyOf_9075b 17 = .ok (.astore_n 2, 1) := by decide +kernel
theorem dJ7_copyOf_9075b_18 : decode cJ7_copyOf_9075b 18 = .ok (.aload_n 0, 1) := by decide +kernel
theorem dJ7_copyOf_9075b_19 : decode cJ7_copyOf_9075b 19 = .ok (.iconst 0, 1) := by decide +kernel
theorem dJ7_copyOf_9075b_20 : decode cJ7_copyOf_9075b 20 = .ok (.aload_n 2, 1) := by decide +kernel
theorem dJ7_copyOf_9075b_21 : decode cJ7_copyOf_9075b 21 = .ok (.iconst 0, 1) := by decide +kernel
theorem dJ7_copyOf_9075b_22 : decode cJ7_copyOf_9075b 22 = .ok (.aload_n 0, 1) := by decide +kernel
theorem dJ7_copyOf_9075b_23 : decode cJ7_copyOf_9075b 23 = .ok (.arraylength, 1) := by decide +kernel
theorem dJ7_copyOf_9075b_24 : decode cJ7_copyOf_9075b 24 = .ok (.iload_n 1, 1) := by decide +kernel
theorem dJ7_copyOf_9075b_25 : decode cJ7_copyOf_9075b 25 = .ok (.invokestatic 304, 3) := by decide +kernel
theorem dJ7_copyOf_9075b_28 : decode cJ7_copyOf_9075b 28 = .ok (.invokestatic 150, 3) := by decide +kernel
theorem dJ7_copyOf_9075b_31 : decode cJ7_copyOf_9075b 31 = .ok (.aload_n 2, 1) := by decide +kernel
theorem dJ7_copyOf_9075b_32 : decode cJ7_copyOf_9075b 32 = .ok (.areturn, 1) := by decide +kernel
theorem dJ7_copyOf_59c91_0 : decode cJ7_copyOf_59c91 0 = .ok (.iload_n 1, 1) := by decide +kernel
theorem dJ7_copyOf_59c91_1 : decode cJ7_copyOf_59c91 1 = .ok (.aload_n 0, 1) := by decide +kernel
theorem dJ7_copyOf_59c91_2 : decode cJ7_copyOf_59c91 2 = .ok (.arraylength, 1) := by decide +kernel
theorem dJ7_copyOf_59c91_3 : decode cJ7_copyOf_59c91 3 = .ok (.if_icmp .ne 11, 3) := by decide +kernel
theorem dJ7_copyOf_59c91_6 : decode cJ7_copyOf_59c91 6 = .ok (.aload_n 0, 1) := by decide +kernel
theorem dJ7_copyOf_59c91_7 : decode cJ7_copyOf_59c91 7 = .ok (.invokevirtual 316, 3) := by decide +kernel
theorem dJ7_copyOf_59c91_10 : decode cJ7_copyOf_59c91 10 = .ok (.checkcast 317, 3) := by decide +kernel
theorem dJ7_copyOf_59c91_13 : decode cJ7_copyOf_59c91 13 = .ok (.areturn, 1) := by decide +kernel
theorem dJ7_copyOf_59c91_14 : decode cJ7_copyOf_59c91 14 = .ok (.iload_n 1, 1) := by decide +kernel
theorem dJ7_copyOf_59c91_15 : decode cJ7_copyOf_59c91 15 = .ok (.newarray .int, 2) := by decide +kernel
theorem dJ7_copyOf_59c91_17 : decode cJ7_copyOf_59c91 17 = .ok (.astore_n 2, 1) := by decide +kernel
theorem dJ7_copyOf_59c91_18 : decode cJ7_copyOf_59c91 18 = .ok (.aload_n 0, 1) := by decide +kernel
theorem dJ7_copyOf_59c91_19 : decode cJ7_copyOf_59c91 19 = .ok (.iconst 0, 1) := by decide +kernel
theorem dJ7_copyOf_59c91_20 : decode cJ7_copyOf_59c91 20 = .ok (.aload_n 2, 1) := by decide +kernel
theorem dJ7_copyOf_59c91_21 : decode cJ7_copyOf_59c91 21 = .ok (.iconst 0, 1) := by decide +kernel
theorem dJ7_copyOf_59c91_22 : decode cJ7_copyOf_59c91 22 = .ok (.aload_n 0, 1) := by decide +kernel
theorem dJ7_copyOf_59c91_23 : decode cJ7_copyOf_59c91 23 = .ok (.arraylength, 1) := by decide +kernel
theorem dJ7_copyOf_59c91_24 : decode cJ7_copyOf_59c91 24 = .ok (.iload_n 1, 1) := by decide +kernel
theorem dJ7_copyOf_59c91_25 : decode cJ7_copyOf_59c91 25 = .ok (.invokestatic 304, 3) := by decide +kernel
theorem dJ7_copyOf_59c91_28 : decode cJ7_copyOf_59c91 28 = .ok (.invokestatic 150, 3) := by decide +kernel
theorem dJ7_copyOf_59c91_31 : decode cJ7_copyOf_59c91 31 = .ok (.aload_n 2, 1) := by decide +kernel
theorem dJ7_copyOf_59c91_32 : decode cJ7_copyOf_59c91 32 = .ok (.areturn, 1) := by decide +kernel
theorem dJ7_copyOf_c38d5_0 : decode cJ7_copyOf_c38d5 0 = .ok (.iload_n 1, 1) := by decide +kernel
theorem dJ7_copyOf_c38d5_1 : decode cJ7_copyOf_c38d5 1 = .ok (.aload_n 0, 1) := by decide +kernel
theorem dJ7_copyOf_c38d5_2 : decode cJ7_copyOf_c38d5 2 = .ok (.arraylength, 1) := by decide +kernel
theorem dJ7_copyOf_c38d5_3 : decode cJ7_copyOf_c38d5 3 = .ok (.if_icmp .ne 11, 3) := by decide +kernel
theorem dJ7_copyOf_c38d5_6 : decode cJ7_copyOf_c38d5 6 = .ok (.aload_n 0, 1) := by decide +kernel
theorem dJ7_copyOf_c38d5_7 : decode cJ7_copyOf_c38d5 7 = .ok (.invokevirtual 319, 3) := by decide +kernel
theorem dJ7_copyOf_c38d5_10 : decode cJ7_copyOf_c38d5 10 = .ok (.checkcast 320, 3) := by decide +kernel
theorem dJ7_copyOf_c38d5_13 : decode cJ7_copyOf_c38d5 13 = .ok (.areturn, 1) := by decide +kernel
theorem dJ7_copyOf_c38d5_14 : decode cJ7_copyOf_c38d5 14 = .ok (.iload_n 1, 1) := by decide +kernel
theorem dJ7_copyOf_c38d5_15 : decode cJ7_copyOf_c38d5 15 = .ok (.newarray .long, 2) := by decide +kernel
theorem dJ7_copyOf_c38d5_17 : decode cJ7_copyOf_c38d5 17 = .ok (.astore_n 2, 1) := by decide +kernel
theorem dJ7_copyOf_c38d5_18 : decode cJ7_copyOf_c38d5 18 = .ok (.aload_n 0, 1) := by decide +kernel
theorem dJ7_copyOf_c38d5_19 : decode cJ7_copyOf_c38d5 19 = .ok (.iconst 0, 1) := by decide +kernel
theorem dJ7_copyOf_c38d5_20 : decode cJ7_copyOf_c38d5 20 = .ok (.aload_n 2, 1) := by decide +kernel
theorem dJ7_copyOf_c38d5_21 : decode cJ7_copyOf_c38d5 21 = .ok (.iconst 0, 1) := by decide +kernel
theorem dJ7_copyOf_c38d5_22 : decode cJ7_copyOf_c38d5 22 = .ok (.aload_n 0, 1) := by decide +kernel
theorem dJ7_copyOf_c38d5_23 : decode cJ7_copyOf_c38d5 23 = .ok (.arraylength, 1) := by decide +kernel
theorem dJ7_copyOf_c38d5_24 : decode cJ7_copyOf_c38d5 24 = .ok (.iload_n 1, 1) := by decide +kernel
theorem dJ7_copyOf_c38d5_25 : decode cJ7_copyOf_c38d5 25 = .ok (.invokestatic 304, 3) := by decide +kernel
theorem dJ7_copyOf_c38d5_28 : decode cJ7_copyOf_c38d5 28 = .ok (.invokestatic 150, 3) := by decide +kernel
theorem dJ7_copyOf_c38d5_31 : decode cJ7_copyOf_c38d5 31 = .ok (.aload_n 2, 1) := by decide +kernel
theorem dJ7_copyOf_c38d5_32 : decode cJ7_copyOf_c38d5 32 = .ok (.areturn, 1) := by decide +kernel
