theorem dX0_init_0 : decode cX0_init 0 = .ok (.aload_n 0, 1) := by decide +kernel
theorem dX0_init_1 : decode cX0_init 1 = .ok (.invokespecial 3, 3) := by decide +kernel
theorem dX0_init_4 : decode cX0_init 4 = .ok (.aload_n 0, 1) := by decide +kernel
theorem dX0_init_5 : decode cX0_init 5 = .ok (.sipush 200, 3) := by decide +kernel
theorem dX0_init_8 : decode cX0_init 8 = .ok (.anewarray 9, 3) := by decide +kernel
theorem dX0_init_11 : decode cX0_init 11 = .ok (.putfield 11, 3) := by decide +kernel
theorem dX0_init_14 : decode cX0_init 14 = .ok (.aload_n 0, 1) := by decide +kernel
theorem dX0_init_15 : decode cX0_init 15 = .ok (.bipush 32, 2) := by decide +kernel
theorem dX0_init_17 : decode cX0_init 17 = .ok (.anewarray 17, 3) := by decide +kernel
theorem dX0_init_20 : decode cX0_init 20 = .ok (.putfield 19, 3) := by decide +kernel
theorem dX0_init_23 : decode cX0_init 23 = .ok (.aload_n 0, 1) := by decide +kernel
theorem dX0_init_24 : decode cX0_init 24 = .ok (.new 23, 3) := by decide +kernel
theorem dX0_init_27 : decode cX0_init 27 = .ok (.dup, 1) := by decide +kernel
theorem dX0_init_28 : decode cX0_init 28 = .ok (.invokespecial 25, 3) := by decide +kernel
theorem dX0_init_31 : decode cX0_init 31 = .ok (.putfield 26, 3) := by decide +kernel
theorem dX0_init_34 : decode cX0_init 34 = .ok (.aload_n 0, 1) := by decide +kernel
theorem dX0_init_35 : decode cX0_init 35 = .ok (.bipush 100, 2) := by decide +kernel
theorem dX0_init_37 : decode cX0_init 37 = .ok (.newarray .int, 2) := by decide +kernel
theorem dX0_init_39 : decode cX0_init 39 = .ok (.putfield 30, 3) := by decide +kernel
theorem dX0_init_42 : decode cX0_init 42 = .ok (.aload_n 0, 1) := by decide +kernel
theorem dX0_init_43 : decode cX0_init 43 = .ok (.iconst 4, 1) := by decide +kernel
theorem dX0_init_44 : decode cX0_init 44 = .ok (.newarray .int, 2) := by decide +kernel
theorem dX0_init_46 : decode cX0_init 46 = .ok (.putfield 34, 3) := by decide +kernel
theorem dX0_init_49 : decode cX0_init 49 = .ok (.aload_n 0, 1) := by decide +kernel
theorem dX0_init_50 : decode cX0_init 50 = .ok (.sipush 200, 3) := by decide +kernel
theorem dX0_init_53 : decode cX0_init 53 = .ok (.newarray .int, 2) := by decide +kernel
theorem dX0_init_55 : decode cX0_init 55 = .ok (.putfield 37, 3) := by decide +kernel
theorem dX0_init_58 : decode cX0_init 58 = .ok (.aload_n 0, 1) := by decide +kernel
theorem dX0_init_59 : decode cX0_init 59 = .ok (.bipush 12, 2) := by decide +kernel
theorem dX0_init_61 : decode cX0_init 61 = .ok (.newarray .int, 2) := by decide +kernel
theorem dX0_init_63 : decode cX0_init 63 = .ok (.putfield 40, 3) := by decide +kernel
theorem dX0_init_66 : decode cX0_init 66 = .ok (.aload_n 0, 1) := by decide +kernel
theorem dX0_init_67 : decode cX0_init 67 = .ok (.iconst 0, 1) := by decide +kernel
theorem dX0_init_68 : decode cX0_init 68 = .ok (.putfield 43, 3) := by decide +kernel
theorem dX0_init_71 : decode cX0_init 71 = .ok (.aload_n 0, 1) := by decide +kernel
theorem dX0_init_72 : decode cX0_init 72 = .ok (.iconst 0, 1) := by decide +kernel
theorem dX0_init_73 : decode cX0_init 73 = .ok (.putfield 47, 3) := by decide +kernel
theorem dX0_init_76 : decode cX0_init 76 = .ok (.aload_n 0, 1) := by decide +kernel
theorem dX0_init_77 : decode cX0_init 77 = .ok (.iconst 1, 1) := by decide +kernel
theorem dX0_init_78 : decode cX0_init 78 = .ok (.putfield 50, 3) := by decide +kernel
theorem dX0_init_81 : decode cX0_init 81 = .ok (.aload_n 0, 1) := by decide +kernel
theorem dX0_init_82 : decode cX0_init 82 = .ok (.iconst 0, 1) := by decide +kernel
theorem dX0_init_83 : decode cX0_init 83 = .ok (.putfield 53, 3) := by decide +kernel
theorem dX0_init_86 : decode cX0_init 86 = .ok (.aload_n 0, 1) := by decide +kernel
theorem dX0_init_87 : decode cX0_init 87 = .ok (.iconst 0, 1) := by decide +kernel
theorem dX0_init_88 : decode cX0_init 88 = .ok (.putfield 56, 3) := by decide +kernel
theorem dX0_init_91 : decode cX0_init 91 = .ok (.iconst 0, 1) := by decide +kernel
theorem dX0_init_92 : decode cX0_init 92 = .ok (.istore_n 1, 1) := by decide +kernel
theorem dX0_init_93 : decode cX0_init 93 = .ok (.iload_n 1, 1) := by decide +kernel
theorem dX0_init_94 : decode cX0_init 94 = .ok (.sipush 200, 3) := by decide +kernel
theorem dX0_init_97 : decode cX0_init 97 = .ok (.if_icmp .ge 23, 3) := by decide +kernel
theorem dX0_init_100 : decode cX0_init 100 = .ok (.aload_n 0, 1) := by decide +kernel
theorem dX0_init_101 : decode cX0_init 101 = .ok (.getfield 11, 3) := by decide +kernel
theorem dX0_init_104 : decode cX0_init 104 = .ok (.iload_n 1, 1) := by decide +kernel
theorem dX0_init_105 : decode cX0_init 105 = .ok (.new 9, 3) := by decide +kernel
theorem dX0_init_108 : decode cX0_init 108 = .ok (.dup, 1) := by decide +kernel
theorem dX0_init_109 : decode cX0_init 109 = .ok (.iload_n 1, 1) := by decide +kernel
theorem dX0_init_110 : decode cX0_init 110 = .ok (.invokespecial 59, 3) := by decide +kernel
theorem dX0_init_113 : decode cX0_init 113 = .ok (.aastore, 1) := by decide +kernel
theorem dX0_init_114 : decode cX0_init 114 = .ok (.iinc 1 1, 3) := by decide +kernel
theorem dX0_init_117 : decode cX0_init 117 = .ok (.goto (-24), 3) := by decide +kernel
theorem dX0_init_120 : decode cX0_init 120 = .ok (.iconst 0, 1) := by decide +kernel
theorem dX0_init_121 : decode cX0_init 121 = .ok (.istore_n 1, 1) := by decide +kernel
theorem dX0_init_122 : decode cX0_init 122 = .ok (.iload_n 1, 1) := by decide +kernel
theorem dX0_init_123 : decode cX0_init 123 = .ok (.bipush 32, 2) := by decide +kernel
theorem dX0_init_125 : decode cX0_init 125 = .ok (.if_icmp .ge 22, 3) := by decide +kernel
theorem dX0_init_128 : decode cX0_init 128 = .ok (.aload_n 0, 1) := by decide +kernel
theorem dX0_init_129 : decode cX0_init 129 = .ok (.getfield 19, 3) := by decide +kernel
theorem dX0_init_132 : decode cX0_init 132 = .ok (.iload_n 1, 1) := by decide +kernel
theorem dX0_init_133 : decode cX0_init 133 = .ok (.new 17, 3) := by decide +kernel
theorem dX0_init_136 : decode cX0_init 136 = .ok (.dup, 1) := by decide +kernel
theorem dX0_init_137 : decode cX0_init 137 = .ok (.invokespecial 62, 3) := by decide +kernel
theorem dX0_init_140 : decode cX0_init 140 = .ok (.aastore, 1) := by decide +kernel
theorem dX0_init_141 : decode cX0_init 141 = .ok (.iinc 1 1, 3) := by decide +kernel
theorem dX0_init_144 : decode cX0_init 144 = .ok (.goto (-22), 3) := by decide +kernel
theorem dX0_init_147 : decode cX0_init 147 = .ok (.aload_n 0, 1) := by decide +kernel
theorem dX0_init_148 : decode cX0_init 148 = .ok (.getfield 30, 3) := by decide +kernel
theorem dX0_init_151 : decode cX0_init 151 = .ok (.bipush (-2), 2) := by decide +kernel
theorem dX0_init_153 : decode cX0_init 153 = .ok (.invokestatic 63, 3) := by decide +kernel
theorem dX0_init_156 : decode cX0_init 156 = .ok (.aload_n 0, 1) := by decide +kernel
theorem dX0_init_157 : decode cX0_init 157 = .ok (.getfield 34, 3) := by decide +kernel
theorem dX0_init_160 : decode cX0_init 160 = .ok (.iconst (-1), 1) := by decide +kernel
theorem dX0_init_161 : decode cX0_init 161 = .ok (.invokestatic 63, 3) := by decide +kernel
theorem dX0_init_164 : decode cX0_init 164 = .ok (.return_, 1) := by decide +kernel
theorem dX0_clear_0 : decode cX0_clear 0 = .ok (.iconst 0, 1) := by decide +kernel
theorem dX0_clear_1 : decode cX0_clear 1 = .ok (.istore_n 1, 1) := by decide +kernel
theorem dX0_clear_2 : decode cX0_clear 2 = .ok (.iload_n 1, 1) := by decide +kernel
theorem dX0_clear_3 : decode cX0_clear 3 = .ok (.bipush 32, 2) := by decide +kernel
theorem dX0_clear_5 : decode cX0_clear 5 = .ok (.if_icmp .ge 19, 3) := by decide +kernel
theorem dX0_clear_8 : decode cX0_clear 8 = .ok (.aload_n 0, 1) := by decide +kernel
theorem dX0_clear_9 : decode cX0_clear 9 = .ok (.getfield 19, 3) := by decide +kernel
theorem dX0_clear_12 : decode cX0_clear 12 = .ok (.iload_n 1, 1) := by decide +kernel
theorem dX0_clear_13 : decode cX0_clear 13 = .ok (.aaload, 1) := by decide +kernel
theorem dX0_clear_14 : decode cX0_clear 14 = .ok (.iconst (-1), 1) := by decide +kernel
theorem dX0_clear_15 : decode cX0_clear 15 = .ok (.putfield 69, 3) := by decide +kernel
theorem dX0_clear_18 : decode cX0_clear 18 = .ok (.iinc 1 1, 3) := by decide +kernel
theorem dX0_clear_21 : decode cX0_clear 21 = .ok (.goto (-19), 3) := by decide +kernel
theorem dX0_clear_24 : decode cX0_clear 24 = .ok (.aload_n 0, 1) := by decide +kernel
theorem dX0_clear_25 : decode cX0_clear 25 = .ok (.getfield 26, 3) := by decide +kernel
theorem dX0_clear_28 : decode cX0_clear 28 = .ok (.iconst 0, 1) := by decide +kernel
theorem dX0_clear_29 : decode cX0_clear 29 = .ok (.putfield 72, 3) := by decide +kernel
theorem dX0_clear_32 : decode cX0_clear 32 = .ok (.aload_n 0, 1) := by decide +kernel
theorem dX0_clear_33 : decode cX0_clear 33 = .ok (.getfield 30, 3) := by decide +kernel
theorem dX0_clear_36 : decode cX0_clear 36 = .ok (.bipush (-2), 2) := by decide +kernel
theorem dX0_clear_38 : decode cX0_clear 38 = .ok (.invokestatic 63, 3) := by decide +kernel
theorem dX0_clear_41 : decode cX0_clear 41 = .ok (.aload_n 0, 1) := by decide +kernel
theorem dX0_clear_42 : decode cX0_clear 42 = .ok (.getfield 34, 3) := by decide +kernel
theorem dX0_clear_45 : decode cX0_clear 45 = .ok (.iconst (-1), 1) := by decide +kernel
theorem dX0_clear_46 : decode cX0_clear 46 = .ok (.invokestatic 63, 3) := by decide +kernel
theorem dX0_clear_49 : decode cX0_clear 49 = .ok (.aload_n 0, 1) := by decide +kernel
theorem dX0_clear_50 : decode cX0_clear 50 = .ok (.getfield 40, 3) := by decide +kernel
theorem dX0_clear_53 : decode cX0_clear 53 = .ok (.iconst 0, 1) := by decide +kernel
theorem dX0_clear_54 : decode cX0_clear 54 = .ok (.invokestatic 63, 3) := by decide +kernel
theorem dX0_clear_57 : decode cX0_clear 57 = .ok (.aload_n 0, 1) := by decide +kernel
theorem dX0_clear_58 : decode cX0_clear 58 = .ok (.iconst 0, 1) := by decide +kernel
theorem dX0_clear_59 : decode cX0_clear 59 = .ok (.putfield 43, 3) := by decide +kernel
theorem dX0_clear_62 : decode cX0_clear 62 = .ok (.aload_n 0, 1) := by decide +kernel
theorem dX0_clear_63 : decode cX0_clear 63 = .ok (.iconst 0, 1) := by decide +kernel
theorem dX0_clear_64 : decode cX0_clear 64 = .ok (.putfield 47, 3) := by decide +kernel
theorem dX0_clear_67 : decode cX0_clear 67 = .ok (.aload_n 0, 1) := by decide +kernel
theorem dX0_clear_68 : decode cX0_clear 68 = .ok (.iconst 1, 1) := by decide +kernel
theorem dX0_clear_69 : decode cX0_clear 69 = .ok (.putfield 50, 3) := by decide +kernel
theorem dX0_clear_72 : decode cX0_clear 72 = .ok (.aload_n 0, 1) := by decide +kernel
theorem dX0_clear_73 : decode cX0_clear 73 = .ok (.iconst 0, 1) := by decide +kernel
theorem dX0_clear_74 : decode cX0_clear 74 = .ok (.putfield 53, 3) := by decide +kernel
theorem dX0_clear_77 : decode cX0_clear 77 = .ok (.aload_n 0, 1) := by decide +kernel
theorem dX0_clear_78 : decode cX0_clear 78 = .ok (.iconst 0, 1) := by decide +kernel
theorem dX0_clear_79 : decode cX0_clear 79 = .ok (.putfield 56, 3) := by decide +kernel
theorem dX0_clear_82 : decode cX0_clear 82 = .ok (.return_, 1) := by decide +kernel
theorem dX0_become_0 : decode cX0_become 0 = .ok (.iconst 0, 1) := by decide +kernel
theorem dX0_become_1 : decode cX0_become 1 = .ok (.istore_n 2, 1) := by decide +kernel
theorem dX0_become_2 : decode cX0_become 2 = .ok (.iload_n 2, 1) := by decide +kernel
theorem dX0_become_3 : decode cX0_become 3 = .ok (.aload_n 1, 1) := by decide +kernel
theorem dX0_become_4 : decode cX0_become 4 = .ok (.getfield 43, 3) := by decide +kernel
theorem dX0_become_7 : decode cX0_become 7 = .ok (.if_icmp .ge 24, 3) := by decide +kernel
theorem dX0_become_10 : decode cX0_become 10 = .ok (.aload_n 0, 1) := by decide +kernel
theorem dX0_become_11 : decode cX0_become 11 = .ok (.getfield 11, 3) := by decide +kernel
theorem dX0_become_14 : decode cX0_become 14 = .ok (.iload_n 2, 1) := by decide +kernel
theorem dX0_become_15 : decode cX0_become 15 = .ok (.aaload, 1) := by decide +kernel
theorem dX0_become_16 : decode cX0_become 16 = .ok (.aload_n 1, 1) := by decide +kernel
theorem dX0_become_17 : decode cX0_become 17 = .ok (.getfield 11, 3) := by decide +kernel
theorem dX0_become_20 : decode cX0_become 20 = .ok (.iload_n 2, 1) := by decide +kernel
theorem dX0_become_21 : decode cX0_become 21 = .ok (.aaload, 1) := by decide +kernel
theorem dX0_become_22 : decode cX0_become 22 = .ok (.invokevirtual 73, 3) := by decide +kernel
theorem dX0_become_25 : decode cX0_become 25 = .ok (.iinc 2 1, 3) := by decide +kernel
theorem dX0_become_28 : decode cX0_become 28 = .ok (.goto (-26), 3) := by decide +kernel
theorem dX0_become_31 : decode cX0_become 31 = .ok (.iconst 0, 1) := by decide +kernel
theorem dX0_become_32 : decode cX0_become 32 = .ok (.istore_n 2, 1) := by decide +kernel
theorem dX0_become_33 : decode cX0_become 33 = .ok (.iload_n 2, 1) := by decide +kernel
theorem dX0_become_34 : decode cX0_become 34 = .ok (.bipush 32, 2) := by decide +kernel
theorem dX0_become_36 : decode cX0_become 36 = .ok (.if_icmp .ge 24, 3) := by decide +kernel
theorem dX0_become_39 : decode cX0_become 39 = .ok (.aload_n 0, 1) := by decide +kernel
theorem dX0_become_40 : decode cX0_become 40 = .ok (.getfield 19, 3) := by decide +kernel
theorem dX0_become_43 : decode cX0_become 43 = .ok (.iload_n 2, 1) := by decide +kernel
theorem dX0_become_44 : decode cX0_become 44 = .ok (.aaload, 1) := by decide +kernel
theorem dX0_become_45 : decode cX0_become 45 = .ok (.aload_n 1, 1) := by decide +kernel
theorem dX0_become_46 : decode cX0_become 46 = .ok (.getfield 19, 3) := by decide +kernel
theorem dX0_become_49 : decode cX0_become 49 = .ok (.iload_n 2, 1) := by decide +kernel
theorem dX0_become_50 : decode cX0_become 50 = .ok (.aaload, 1) := by decide +kernel
theorem dX0_become_51 : decode cX0_become 51 = .ok (.invokevirtual 77, 3) := by decide +kernel
theorem dX0_become_54 : decode cX0_become 54 = .ok (.iinc 2 1, 3) := by decide +kernel
theorem dX0_become_57 : decode cX0_become 57 = .ok (.goto (-24), 3) := by decide +kernel
theorem dX0_become_60 : decode cX0_become 60 = .ok (.aload_n 0, 1) := by decide +kernel
theorem dX0_become_61 : decode cX0_become 61 = .ok (.getfield 26, 3) := by decide +kernel
theorem dX0_become_64 : decode cX0_become 64 = .ok (.aload_n 1, 1) := by decide +kernel
theorem dX0_become_65 : decode cX0_become 65 = .ok (.getfield 26, 3) := by decide +kernel
theorem dX0_become_68 : decode cX0_become 68 = .ok (.invokevirtual 80, 3) := by decide +kernel
theorem dX0_become_71 : decode cX0_become 71 = .ok (.aload_n 1, 1) := by decide +kernel
theorem dX0_become_72 : decode cX0_become 72 = .ok (.getfield 30, 3) := by decide +kernel
theorem dX0_become_75 : decode cX0_become 75 = .ok (.iconst 0, 1) := by decide +kernel
theorem dX0_become_76 : decode cX0_become 76 = .ok (.aload_n 0, 1) := by decide +kernel
theorem dX0_become_77 : decode cX0_become 77 = .ok (.getfield 30, 3) := by decide +kernel
theorem dX0_become_80 : decode cX0_become 80 = .ok (.iconst 0, 1) := by decide +kernel
theorem dX0_become_81 : decode cX0_become 81 = .ok (.bipush 100, 2) := by decide +kernel
theorem dX0_become_83 : decode cX0_become 83 = .ok (.invokestatic 83, 3) := by decide +kernel
theorem dX0_become_86 : decode cX0_become 86 = .ok (.aload_n 1, 1) := by decide +kernel
theorem dX0_become_87 : decode cX0_become 87 = .ok (.getfield 34, 3) := by decide +kernel
theorem dX0_become_90 : decode cX0_become 90 = .ok (.iconst 0, 1) := by decide +kernel
theorem dX0_become_91 : decode cX0_become 91 = .ok (.aload_n 0, 1) := by decide +kernel
theorem dX0_become_92 : decode cX0_become 92 = .ok (.getfield 34, 3) := by decide +kernel
theorem dX0_become_95 : decode cX0_become 95 = .ok (.iconst 0, 1) := by decide +kernel
theorem dX0_become_96 : decode cX0_become 96 = .ok (.iconst 4, 1) := by decide +kernel
theorem dX0_become_97 : decode cX0_become 97 = .ok (.invokestatic 83, 3) := by decide +kernel
theorem dX0_become_100 : decode cX0_become 100 = .ok (.aload_n 1, 1) := by decide +kernel
theorem dX0_become_101 : decode cX0_become 101 = .ok (.getfield 37, 3) := by decide +kernel
theorem dX0_become_104 : decode cX0_become 104 = .ok (.iconst 0, 1) := by decide +kernel
theorem dX0_become_105 : decode cX0_become 105 = .ok (.aload_n 0, 1) := by decide +kernel
theorem dX0_become_106 : decode cX0_become 106 = .ok (.getfield 37, 3) := by decide +kernel
theorem dX0_become_109 : decode cX0_become 109 = .ok (.iconst 0, 1) := by decide +kernel
theorem dX0_become_110 : decode cX0_become 110 = .ok (.sipush 200, 3) := by decide +kernel
theorem dX0_become_113 : decode cX0_become 113 = .ok (.invokestatic 83, 3) := by decide +kernel
theorem dX0_become_116 : decode cX0_become 116 = .ok (.aload_n 1, 1) := by decide +kernel
theorem dX0_become_117 : decode cX0_become 117 = .ok (.getfield 40, 3) := by decide +kernel
theorem dX0_become_120 : decode cX0_become 120 = .ok (.iconst 0, 1) := by decide +kernel
theorem dX0_become_121 : decode cX0_become 121 = .ok (.aload_n 0, 1) := by decide +kernel
theorem dX0_become_122 : decode cX0_become 122 = .ok (.getfield 40, 3) := by decide +kernel
theorem dX0_become_125 : decode cX0_become 125 = .ok (.iconst 0, 1) := by decide +kernel
theorem dX0_become_126 : decode cX0_become 126 = .ok (.bipush 12, 2) := by decide +kernel
theorem dX0_become_128 : decode cX0_become 128 = .ok (.invokestatic 83, 3) := by decide +kernel
theorem dX0_become_131 : decode cX0_become 131 = .ok (.aload_n 0, 1) := by decide +kernel
theorem dX0_become_132 : decode cX0_become 132 = .ok (.aload_n 1, 1) := by decide +kernel
theorem dX0_become_133 : decode cX0_become 133 = .ok (.getfield 43, 3) := by decide +kernel
theorem dX0_become_136 : decode cX0_become 136 = .ok (.putfield 43, 3) := by decide +kernel
theorem dX0_become_139 : decode cX0_become 139 = .ok (.aload_n 0, 1) := by decide +kernel
theorem dX0_become_140 : decode cX0_become 140 = .ok (.aload_n 1, 1) := by decide +kernel
theorem dX0_become_141 : decode cX0_become 141 = .ok (.getfield 47, 3) := by decide +kernel
theorem dX0_become_144 : decode cX0_become 144 = .ok (.putfield 47, 3) := by decide +kernel
theorem dX0_become_147 : decode cX0_become 147 = .ok (.aload_n 0, 1) := by decide +kernel
theorem dX0_become_148 : decode cX0_become 148 = .ok (.aload_n 1, 1) := by decide +kernel
theorem dX0_become_149 : decode cX0_become 149 = .ok (.getfield 50, 3) := by decide +kernel
theorem dX0_become_152 : decode cX0_become 152 = .ok (.putfield 50, 3) := by decide +kernel
theorem dX0_become_155 : decode cX0_become 155 = .ok (.aload_n 0, 1) := by decide +kernel
theorem dX0_become_156 : decode cX0_become 156 = .ok (.aload_n 1, 1) := by decide +kernel
theorem dX0_become_157 : decode cX0_become 157 = .ok (.getfield 53, 3) := by decide +kernel
theorem dX0_become_160 : decode cX0_become 160 = .ok (.putfield 53, 3) := by decide +kernel
theorem dX0_become_163 : decode cX0_become 163 = .ok (.aload_n 0, 1) := by decide +kernel
theorem dX0_become_164 : decode cX0_become 164 = .ok (.aload_n 1, 1) := by decide +kernel
theorem dX0_become_165 : decode cX0_become 165 = .ok (.getfield 56, 3) := by decide +kernel
theorem dX0_become_168 : decode cX0_become 168 = .ok (.putfield 56, 3) := by decide +kernel
theorem dX0_become_171 : decode cX0_become 171 = .ok (.return_, 1) := by decide +kernel
theorem dX0_taskAt_0 : decode cX0_taskAt 0 = .ok (.iload_n 1, 1) := by decide +kernel
theorem dX0_taskAt_1 : decode cX0_taskAt 1 = .ok (.ifCond .lt 20, 3) := by decide +kernel
theorem dX0_taskAt_4 : decode cX0_taskAt 4 = .ok (.iload_n 1, 1) := by decide +kernel
theorem dX0_taskAt_5 : decode cX0_taskAt 5 = .ok (.aload_n 0, 1) := by decide +kernel
theorem dX0_taskAt_6 : decode cX0_taskAt 6 = .ok (.getfield 43, 3) := by decide +kernel
theorem dX0_taskAt_9 : decode cX0_taskAt 9 = .ok (.if_icmp .ge 12, 3) := by decide +kernel
theorem dX0_taskAt_12 : decode cX0_taskAt 12 = .ok (.aload_n 0, 1) := by decide +kernel
theorem dX0_taskAt_13 : decode cX0_taskAt 13 = .ok (.getfield 11, 3) := by decide +kernel
theorem dX0_taskAt_16 : decode cX0_taskAt 16 = .ok (.iload_n 1, 1) := by decide +kernel
theorem dX0_taskAt_17 : decode cX0_taskAt 17 = .ok (.aaload, 1) := by decide +kernel
theorem dX0_taskAt_18 : decode cX0_taskAt 18 = .ok (.goto 4, 3) := by decide +kernel
theorem dX0_taskAt_21 : decode cX0_taskAt 21 = .ok (.aconst_null, 1) := by decide +kernel
theorem dX0_taskAt_22 : decode cX0_taskAt 22 = .ok (.areturn, 1) := by decide +kernel
theorem dX0_unendedTask_0 : decode cX0_unendedTask 0 = .ok (.aload_n 0, 1) := by decide +kernel
theorem dX0_unendedTask_1 : decode cX0_unendedTask 1 = .ok (.iload_n 1, 1) := by decide +kernel
theorem dX0_unendedTask_2 : decode cX0_unendedTask 2 = .ok (.invokevirtual 89, 3) := by decide +kernel
theorem dX0_unendedTask_5 : decode cX0_unendedTask 5 = .ok (.astore_n 2, 1) := by decide +kernel
theorem dX0_unendedTask_6 : decode cX0_unendedTask 6 = .ok (.aload_n 2, 1) := by decide +kernel
theorem dX0_unendedTask_7 : decode cX0_unendedTask 7 = .ok (.ifnull 11, 3) := by decide +kernel
theorem dX0_unendedTask_10 : decode cX0_unendedTask 10 = .ok (.aload_n 2, 1) := by decide +kernel
theorem dX0_unendedTask_11 : decode cX0_unendedTask 11 = .ok (.getfield 93, 3) := by decide +kernel
theorem dX0_unendedTask_14 : decode cX0_unendedTask 14 = .ok (.iconst 4, 1) := by decide +kernel
theorem dX0_unendedTask_15 : decode cX0_unendedTask 15 = .ok (.if_icmp .ne 7, 3) := by decide +kernel
theorem dX0_unendedTask_18 : decode cX0_unendedTask 18 = .ok (.aconst_null, 1) := by decide +kernel
theorem dX0_unendedTask_19 : decode cX0_unendedTask 19 = .ok (.goto 4, 3) := by decide +kernel
theorem dX0_unendedTask_22 : decode cX0_unendedTask 22 = .ok (.aload_n 2, 1) := by decide +kernel
theorem dX0_unendedTask_23 : decode cX0_unendedTask 23 = .ok (.areturn, 1) := by decide +kernel
theorem dX0_programAt_0 : decode cX0_programAt 0 = .ok (.iload_n 1, 1) := by decide +kernel
theorem dX0_programAt_1 : decode cX0_programAt 1 = .ok (.ifCond .lt 18, 3) := by decide +kernel
theorem dX0_programAt_4 : decode cX0_programAt 4 = .ok (.iload_n 1, 1) := by decide +kernel
theorem dX0_programAt_5 : decode cX0_programAt 5 = .ok (.bipush 32, 2) := by decide +kernel
theorem dX0_programAt_7 : decode cX0_programAt 7 = .ok (.if_icmp .ge 12, 3) := by decide +kernel
theorem dX0_programAt_10 : decode cX0_programAt 10 = .ok (.aload_n 0, 1) := by decide +kernel
theorem dX0_programAt_11 : decode cX0_programAt 11 = .ok (.getfield 19, 3) := by decide +kernel
theorem dX0_programAt_14 : decode cX0_programAt 14 = .ok (.iload_n 1, 1) := by decide +kernel
theorem dX0_programAt_15 : decode cX0_programAt 15 = .ok (.aaload, 1) := by decide +kernel
theorem dX0_programAt_16 : decode cX0_programAt 16 = .ok (.goto 4, 3) := by decide +kernel
theorem dX0_programAt_19 : decode cX0_programAt 19 = .ok (.aconst_null, 1) := by decide +kernel
theorem dX0_programAt_20 : decode cX0_programAt 20 = .ok (.areturn, 1) := by decide +kernel
theorem dX0_holderOf_0 : decode cX0_holderOf 0 = .ok (.iload_n 1, 1) := by decide +kernel
theorem dX0_holderOf_1 : decode cX0_holderOf 1 = .ok (.ifCond .lt 18, 3) := by decide +kernel
theorem dX0_holderOf_4 : decode cX0_holderOf 4 = .ok (.iload_n 1, 1) := by decide +kernel
theorem dX0_holderOf_5 : decode cX0_holderOf 5 = .ok (.bipush 100, 2) := by decide +kernel
theorem dX0_holderOf_7 : decode cX0_holderOf 7 = .ok (.if_icmp .ge 12, 3) := by decide +kernel
theorem dX0_holderOf_10 : decode cX0_holderOf 10 = .ok (.aload_n 0, 1) := by decide +kernel
theorem dX0_holderOf_11 : decode cX0_holderOf 11 = .ok (.getfield 30, 3) := by decide +kernel
theorem dX0_holderOf_14 : decode cX0_holderOf 14 = .ok (.iload_n 1, 1) := by decide +kernel
theorem dX0_holderOf_15 : decode cX0_holderOf 15 = .ok (.iaload, 1) := by decide +kernel
theorem dX0_holderOf_16 : decode cX0_holderOf 16 = .ok (.goto 5, 3) := by decide +kernel
theorem dX0_holderOf_19 : decode cX0_holderOf 19 = .ok (.bipush (-2), 2) := by decide +kernel
theorem dX0_holderOf_21 : decode cX0_holderOf 21 = .ok (.ireturn, 1) := by decide +kernel
theorem dX0_howMany_0 : decode cX0_howMany 0 = .ok (.iconst 0, 1) := by decide +kernel
theorem dX0_howMany_1 : decode cX0_howMany 1 = .ok (.istore_n 2, 1) := by decide +kernel
theorem dX0_howMany_2 : decode cX0_howMany 2 = .ok (.iconst 0, 1) := by decide +kernel
theorem dX0_howMany_3 : decode cX0_howMany 3 = .ok (.istore_n 3, 1) := by decide +kernel
theorem dX0_howMany_4 : decode cX0_howMany 4 = .ok (.iload_n 3, 1) := by decide +kernel
theorem dX0_howMany_5 : decode cX0_howMany 5 = .ok (.aload_n 0, 1) := by decide +kernel
theorem dX0_howMany_6 : decode cX0_howMany 6 = .ok (.getfield 43, 3) := by decide +kernel
theorem dX0_howMany_9 : decode cX0_howMany 9 = .ok (.if_icmp .ge 30, 3) := by decide +kernel
theorem dX0_howMany_12 : decode cX0_howMany 12 = .ok (.iload_n 2, 1) := by decide +kernel
theorem dX0_howMany_13 : decode cX0_howMany 13 = .ok (.aload_n 0, 1) := by decide +kernel
theorem dX0_howMany_14 : decode cX0_howMany 14 = .ok (.getfield 11, 3) := by decide +kernel
theorem dX0_howMany_17 : decode cX0_howMany 17 = .ok (.iload_n 3, 1) := by decide +kernel
theorem dX0_howMany_18 : decode cX0_howMany 18 = .ok (.aaload, 1) := by decide +kernel
theorem dX0_howMany_19 : decode cX0_howMany 19 = .ok (.getfield 93, 3) := by decide +kernel
theorem dX0_howMany_22 : decode cX0_howMany 22 = .ok (.iload_n 1, 1) := by decide +kernel
theorem dX0_howMany_23 : decode cX0_howMany 23 = .ok (.if_icmp .ne 7, 3) := by decide +kernel
theorem dX0_howMany_26 : decode cX0_howMany 26 = .ok (.iconst 1, 1) := by decide +kernel
theorem dX0_howMany_27 : decode cX0_howMany 27 = .ok (.goto 4, 3) := by decide +kernel
theorem dX0_howMany_30 : decode cX0_howMany 30 = .ok (.iconst 0, 1) := by decide +kernel
theorem dX0_howMany_31 : decode cX0_howMany 31 = .ok (.iadd, 1) := by decide +kernel
theorem dX0_howMany_32 : decode cX0_howMany 32 = .ok (.istore_n 2, 1) := by decide +kernel
theorem dX0_howMany_33 : decode cX0_howMany 33 = .ok (.iinc 3 1, 3) := by decide +kernel
theorem dX0_howMany_36 : decode cX0_howMany 36 = .ok (.goto (-32), 3) := by decide +kernel
theorem dX0_howMany_39 : decode cX0_howMany 39 = .ok (.iload_n 2, 1) := by decide +kernel
theorem dX0_howMany_40 : decode cX0_howMany 40 = .ok (.ireturn, 1) := by decide +kernel
theorem dX0_addTask_0 : decode cX0_addTask 0 = .ok (.aload_n 0, 1) := by decide +kernel
theorem dX0_addTask_1 : decode cX0_addTask 1 = .ok (.getfield 43, 3) := by decide +kernel
theorem dX0_addTask_4 : decode cX0_addTask 4 = .ok (.sipush 200, 3) := by decide +kernel
theorem dX0_addTask_7 : decode cX0_addTask 7 = .ok (.if_icmp .lt 5, 3) := by decide +kernel
theorem dX0_addTask_10 : decode cX0_addTask 10 = .ok (.iconst (-1), 1) := by decide +kernel
theorem dX0_addTask_11 : decode cX0_addTask 11 = .ok (.ireturn, 1) := by decide +kernel
theorem dX0_addTask_12 : decode cX0_addTask 12 = .ok (.aload_n 0, 1) := by decide +kernel
theorem dX0_addTask_13 : decode cX0_addTask 13 = .ok (.getfield 11, 3) := by decide +kernel
theorem dX0_addTask_16 : decode cX0_addTask 16 = .ok (.aload_n 0, 1) := by decide +kernel
theorem dX0_addTask_17 : decode cX0_addTask 17 = .ok (.getfield 43, 3) := by decide +kernel
theorem dX0_addTask_20 : decode cX0_addTask 20 = .ok (.aaload, 1) := by decide +kernel
theorem dX0_addTask_21 : decode cX0_addTask 21 = .ok (.astore 4, 2) := by decide +kernel
theorem dX0_addTask_23 : decode cX0_addTask 23 = .ok (.aload 4, 2) := by decide +kernel
theorem dX0_addTask_25 : decode cX0_addTask 25 = .ok (.iload_n 1, 1) := by decide +kernel
theorem dX0_addTask_26 : decode cX0_addTask 26 = .ok (.iload_n 2, 1) := by decide +kernel
theorem dX0_addTask_27 : decode cX0_addTask 27 = .ok (.iload_n 3, 1) := by decide +kernel
theorem dX0_addTask_28 : decode cX0_addTask 28 = .ok (.aload_n 0, 1) := by decide +kernel
theorem dX0_addTask_29 : decode cX0_addTask 29 = .ok (.invokevirtual 96, 3) := by decide +kernel
theorem dX0_addTask_32 : decode cX0_addTask 32 = .ok (.invokevirtual 100, 3) := by decide +kernel
theorem dX0_addTask_35 : decode cX0_addTask 35 = .ok (.aload 4, 2) := by decide +kernel
theorem dX0_addTask_37 : decode cX0_addTask 37 = .ok (.bipush 100, 2) := by decide +kernel
theorem dX0_addTask_39 : decode cX0_addTask 39 = .ok (.iconst 0, 1) := by decide +kernel
theorem dX0_addTask_40 : decode cX0_addTask 40 = .ok (.aload_n 0, 1) := by decide +kernel
theorem dX0_addTask_41 : decode cX0_addTask 41 = .ok (.getfield 47, 3) := by decide +kernel
theorem dX0_addTask_44 : decode cX0_addTask 44 = .ok (.invokevirtual 104, 3) := by decide +kernel
theorem dX0_addTask_47 : decode cX0_addTask 47 = .ok (.aload_n 0, 1) := by decide +kernel
theorem dX0_addTask_48 : decode cX0_addTask 48 = .ok (.dup, 1) := by decide +kernel
theorem dX0_addTask_49 : decode cX0_addTask 49 = .ok (.getfield 43, 3) := by decide +kernel
theorem dX0_addTask_52 : decode cX0_addTask 52 = .ok (.iconst 1, 1) := by decide +kernel
theorem dX0_addTask_53 : decode cX0_addTask 53 = .ok (.iadd, 1) := by decide +kernel
theorem dX0_addTask_54 : decode cX0_addTask 54 = .ok (.putfield 43, 3) := by decide +kernel
theorem dX0_addTask_57 : decode cX0_addTask 57 = .ok (.aload 4, 2) := by decide +kernel
theorem dX0_addTask_59 : decode cX0_addTask 59 = .ok (.getfield 108, 3) := by decide +kernel
theorem dX0_addTask_62 : decode cX0_addTask 62 = .ok (.ireturn, 1) := by decide +kernel
theorem dX0_leastVirtual_0 : decode cX0_leastVirtual 0 = .ok (.iconst 0, 1) := by decide +kernel
theorem dX0_leastVirtual_1 : decode cX0_leastVirtual 1 = .ok (.istore_n 1, 1) := by decide +kernel
theorem dX0_leastVirtual_2 : decode cX0_leastVirtual 2 = .ok (.lconst 0, 1) := by decide +kernel
theorem dX0_leastVirtual_3 : decode cX0_leastVirtual 3 = .ok (.lstore_n 2, 1) := by decide +kernel
theorem dX0_leastVirtual_4 : decode cX0_leastVirtual 4 = .ok (.iconst 0, 1) := by decide +kernel
theorem dX0_leastVirtual_5 : decode cX0_leastVirtual 5 = .ok (.istore 4, 2) := by decide +kernel
theorem dX0_leastVirtual_7 : decode cX0_leastVirtual 7 = .ok (.iload 4, 2) := by decide +kernel
theorem dX0_leastVirtual_9 : decode cX0_leastVirtual 9 = .ok (.aload_n 0, 1) := by decide +kernel
theorem dX0_leastVirtual_10 : decode cX0_leastVirtual 10 = .ok (.getfield 43, 3) := by decide +kernel
theorem dX0_leastVirtual_13 : decode cX0_leastVirtual 13 = .ok (.if_icmp .ge 49, 3) := by decide +kernel
theorem dX0_leastVirtual_16 : decode cX0_leastVirtual 16 = .ok (.aload_n 0, 1) := by decide +kernel
theorem dX0_leastVirtual_17 : decode cX0_leastVirtual 17 = .ok (.getfield 11, 3) := by decide +kernel
theorem dX0_leastVirtual_20 : decode cX0_leastVirtual 20 = .ok (.iload 4, 2) := by decide +kernel
theorem dX0_leastVirtual_22 : decode cX0_leastVirtual 22 = .ok (.aaload, 1) := by decide +kernel
theorem dX0_leastVirtual_23 : decode cX0_leastVirtual 23 = .ok (.astore 5, 2) := by decide +kernel
theorem dX0_leastVirtual_25 : decode cX0_leastVirtual 25 = .ok (.aload 5, 2) := by decide +kernel
theorem dX0_leastVirtual_27 : decode cX0_leastVirtual 27 = .ok (.getfield 93, 3) := by decide +kernel
theorem dX0_leastVirtual_30 : decode cX0_leastVirtual 30 = .ok (.iconst 4, 1) := by decide +kernel
theorem dX0_leastVirtual_31 : decode cX0_leastVirtual 31 = .ok (.if_icmp .eq 25, 3) := by decide +kernel
theorem dX0_leastVirtual_34 : decode cX0_leastVirtual 34 = .ok (.iload_n 1, 1) := by decide +kernel
theorem dX0_leastVirtual_35 : decode cX0_leastVirtual 35 = .ok (.ifCond .eq 13, 3) := by decide +kernel
theorem dX0_leastVirtual_38 : decode cX0_leastVirtual 38 = .ok (.aload 5, 2) := by decide +kernel
theorem dX0_leastVirtual_40 : decode cX0_leastVirtual 40 = .ok (.getfield 111, 3) := by decide +kernel
theorem dX0_leastVirtual_43 : decode cX0_leastVirtual 43 = .ok (.lload_n 2, 1) := by decide +kernel
theorem dX0_leastVirtual_44 : decode cX0_leastVirtual 44 = .ok (.lcmp, 1) := by decide +kernel
theorem dX0_leastVirtual_45 : decode cX0_leastVirtual 45 = .ok (.ifCond .ge 11, 3) := by decide +kernel
theorem dX0_leastVirtual_48 : decode cX0_leastVirtual 48 = .ok (.iconst 1, 1) := by decide +kernel
theorem dX0_leastVirtual_49 : decode cX0_leastVirtual 49 = .ok (.istore_n 1, 1) := by decide +kernel
theorem dX0_leastVirtual_50 : decode cX0_leastVirtual 50 = .ok (.aload 5, 2) := by decide +kernel
theorem dX0_leastVirtual_52 : decode cX0_leastVirtual 52 = .ok (.getfield 111, 3) := by decide +kernel
theorem dX0_leastVirtual_55 : decode cX0_leastVirtual 55 = .ok (.lstore_n 2, 1) := by decide +kernel
theorem dX0_leastVirtual_56 : decode cX0_leastVirtual 56 = .ok (.iinc 4 1, 3) := by decide +kernel
theorem dX0_leastVirtual_59 : decode cX0_leastVirtual 59 = .ok (.goto (-52), 3) := by decide +kernel
theorem dX0_leastVirtual_62 : decode cX0_leastVirtual 62 = .ok (.lload_n 2, 1) := by decide +kernel
theorem dX0_leastVirtual_63 : decode cX0_leastVirtual 63 = .ok (.lreturn, 1) := by decide +kernel
theorem dX0_changeProcessors_0 : decode cX0_changeProcessors 0 = .ok (.aload_n 0, 1) := by decide +kernel
theorem dX0_changeProcessors_1 : decode cX0_changeProcessors 1 = .ok (.getfield 50, 3) := by decide +kernel
theorem dX0_changeProcessors_4 : decode cX0_changeProcessors 4 = .ok (.istore_n 2, 1) := by decide +kernel
theorem dX0_changeProcessors_5 : decode cX0_changeProcessors 5 = .ok (.aload_n 0, 1) := by decide +kernel
theorem dX0_changeProcessors_6 : decode cX0_changeProcessors 6 = .ok (.iload_n 1, 1) := by decide +kernel
theorem dX0_changeProcessors_7 : decode cX0_changeProcessors 7 = .ok (.putfield 50, 3) := by decide +kernel
theorem dX0_changeProcessors_10 : decode cX0_changeProcessors 10 = .ok (.iload_n 2, 1) := by decide +kernel
theorem dX0_changeProcessors_11 : decode cX0_changeProcessors 11 = .ok (.ireturn, 1) := by decide +kernel
theorem dX0_addLock_0 : decode cX0_addLock 0 = .ok (.iload_n 1, 1) := by decide +kernel
theorem dX0_addLock_1 : decode cX0_addLock 1 = .ok (.ifCond .lt 16, 3) := by decide +kernel
theorem dX0_addLock_4 : decode cX0_addLock 4 = .ok (.iload_n 1, 1) := by decide +kernel
theorem dX0_addLock_5 : decode cX0_addLock 5 = .ok (.bipush 100, 2) := by decide +kernel
theorem dX0_addLock_7 : decode cX0_addLock 7 = .ok (.if_icmp .ge 10, 3) := by decide +kernel
theorem dX0_addLock_10 : decode cX0_addLock 10 = .ok (.aload_n 0, 1) := by decide +kernel
theorem dX0_addLock_11 : decode cX0_addLock 11 = .ok (.getfield 30, 3) := by decide +kernel
theorem dX0_addLock_14 : decode cX0_addLock 14 = .ok (.iload_n 1, 1) := by decide +kernel
theorem dX0_addLock_15 : decode cX0_addLock 15 = .ok (.iconst (-1), 1) := by decide +kernel
theorem dX0_addLock_16 : decode cX0_addLock 16 = .ok (.iastore, 1) := by decide +kernel
theorem dX0_addLock_17 : decode cX0_addLock 17 = .ok (.return_, 1) := by decide +kernel
theorem dX0_ringBell_0 : decode cX0_ringBell 0 = .ok (.iconst 0, 1) := by decide +kernel
theorem dX0_ringBell_1 : decode cX0_ringBell 1 = .ok (.istore_n 2, 1) := by decide +kernel
theorem dX0_ringBell_2 : decode cX0_ringBell 2 = .ok (.iconst 0, 1) := by decide +kernel
theorem dX0_ringBell_3 : decode cX0_ringBell 3 = .ok (.istore_n 3, 1) := by decide +kernel
theorem dX0_ringBell_4 : decode cX0_ringBell 4 = .ok (.iload_n 3, 1) := by decide +kernel
theorem dX0_ringBell_5 : decode cX0_ringBell 5 = .ok (.aload_n 0, 1) := by decide +kernel
theorem dX0_ringBell_6 : decode cX0_ringBell 6 = .ok (.getfield 43, 3) := by decide +kernel
theorem dX0_ringBell_9 : decode cX0_ringBell 9 = .ok (.if_icmp .ge 43, 3) := by decide +kernel
theorem dX0_ringBell_12 : decode cX0_ringBell 12 = .ok (.aload_n 0, 1) := by decide +kernel
theorem dX0_ringBell_13 : decode cX0_ringBell 13 = .ok (.getfield 11, 3) := by decide +kernel
theorem dX0_ringBell_16 : decode cX0_ringBell 16 = .ok (.iload_n 3, 1) := by decide +kernel
theorem dX0_ringBell_17 : decode cX0_ringBell 17 = .ok (.aaload, 1) := by decide +kernel
theorem dX0_ringBell_18 : decode cX0_ringBell 18 = .ok (.astore 4, 2) := by decide +kernel
theorem dX0_ringBell_20 : decode cX0_ringBell 20 = .ok (.aload 4, 2) := by decide +kernel
theorem dX0_ringBell_22 : decode cX0_ringBell 22 = .ok (.getfield 93, 3) := by decide +kernel
theorem dX0_ringBell_25 : decode cX0_ringBell 25 = .ok (.iconst 2, 1) := by decide +kernel
theorem dX0_ringBell_26 : decode cX0_ringBell 26 = .ok (.if_icmp .ne 20, 3) := by decide +kernel
theorem dX0_ringBell_29 : decode cX0_ringBell 29 = .ok (.aload 4, 2) := by decide +kernel
theorem dX0_ringBell_31 : decode cX0_ringBell 31 = .ok (.getfield 115, 3) := by decide +kernel
theorem dX0_ringBell_34 : decode cX0_ringBell 34 = .ok (.iload_n 1, 1) := by decide +kernel
theorem dX0_ringBell_35 : decode cX0_ringBell 35 = .ok (.if_icmp .ne 11, 3) := by decide +kernel
theorem dX0_ringBell_38 : decode cX0_ringBell 38 = .ok (.aload 4, 2) := by decide +kernel
theorem dX0_ringBell_40 : decode cX0_ringBell 40 = .ok (.invokevirtual 118, 3) := by decide +kernel
theorem dX0_ringBell_43 : decode cX0_ringBell 43 = .ok (.iinc 2 1, 3) := by decide +kernel
theorem dX0_ringBell_46 : decode cX0_ringBell 46 = .ok (.iinc 3 1, 3) := by decide +kernel
theorem dX0_ringBell_49 : decode cX0_ringBell 49 = .ok (.goto (-45), 3) := by decide +kernel
theorem dX0_ringBell_52 : decode cX0_ringBell 52 = .ok (.iload_n 2, 1) := by decide +kernel
theorem dX0_ringBell_53 : decode cX0_ringBell 53 = .ok (.ireturn, 1) := by decide +kernel
theorem dX0_goOn_0 : decode cX0_goOn 0 = .ok (.iconst 0, 1) := by decide +kernel
theorem dX0_goOn_1 : decode cX0_goOn 1 = .ok (.istore_n 2, 1) := by decide +kernel
theorem dX0_goOn_2 : decode cX0_goOn 2 = .ok (.iconst 0, 1) := by decide +kernel
theorem dX0_goOn_3 : decode cX0_goOn 3 = .ok (.istore_n 3, 1) := by decide +kernel
theorem dX0_goOn_4 : decode cX0_goOn 4 = .ok (.iload_n 3, 1) := by decide +kernel
theorem dX0_goOn_5 : decode cX0_goOn 5 = .ok (.iload_n 1, 1) := by decide +kernel
theorem dX0_goOn_6 : decode cX0_goOn 6 = .ok (.if_icmp .ge 116, 3) := by decide +kernel
theorem dX0_goOn_9 : decode cX0_goOn 9 = .ok (.iload_n 2, 1) := by decide +kernel
theorem dX0_goOn_10 : decode cX0_goOn 10 = .ok (.iload_n 1, 1) := by decide +kernel
theorem dX0_goOn_11 : decode cX0_goOn 11 = .ok (.if_icmp .ge 111, 3) := by decide +kernel
theorem dX0_goOn_14 : decode cX0_goOn 14 = .ok (.aload_n 0, 1) := by decide +kernel
theorem dX0_goOn_15 : decode cX0_goOn 15 = .ok (.getfield 26, 3) := by decide +kernel
theorem dX0_goOn_18 : decode cX0_goOn 18 = .ok (.invokevirtual 121, 3) := by decide +kernel
theorem dX0_goOn_21 : decode cX0_goOn 21 = .ok (.ifCond .eq 101, 3) := by decide +kernel
theorem dX0_goOn_24 : decode cX0_goOn 24 = .ok (.aload_n 0, 1) := by decide +kernel
theorem dX0_goOn_25 : decode cX0_goOn 25 = .ok (.iload_n 1, 1) := by decide +kernel
theorem dX0_goOn_26 : decode cX0_goOn 26 = .ok (.iload_n 2, 1) := by decide +kernel
theorem dX0_goOn_27 : decode cX0_goOn 27 = .ok (.isub, 1) := by decide +kernel
theorem dX0_goOn_28 : decode cX0_goOn 28 = .ok (.invokevirtual 125, 3) := by decide +kernel
theorem dX0_goOn_31 : decode cX0_goOn 31 = .ok (.istore 4, 2) := by decide +kernel
theorem dX0_goOn_33 : decode cX0_goOn 33 = .ok (.iload 4, 2) := by decide +kernel
theorem dX0_goOn_35 : decode cX0_goOn 35 = .ok (.ifCond .le 30, 3) := by decide +kernel
theorem dX0_goOn_38 : decode cX0_goOn 38 = .ok (.aload_n 0, 1) := by decide +kernel
theorem dX0_goOn_39 : decode cX0_goOn 39 = .ok (.getfield 34, 3) := by decide +kernel
theorem dX0_goOn_42 : decode cX0_goOn 42 = .ok (.iconst (-1), 1) := by decide +kernel
theorem dX0_goOn_43 : decode cX0_goOn 43 = .ok (.invokestatic 63, 3) := by decide +kernel
theorem dX0_goOn_46 : decode cX0_goOn 46 = .ok (.aload_n 0, 1) := by decide +kernel
theorem dX0_goOn_47 : decode cX0_goOn 47 = .ok (.dup, 1) := by decide +kernel
theorem dX0_goOn_48 : decode cX0_goOn 48 = .ok (.getfield 47, 3) := by decide +kernel
theorem dX0_goOn_51 : decode cX0_goOn 51 = .ok (.iload 4, 2) := by decide +kernel
theorem dX0_goOn_53 : decode cX0_goOn 53 = .ok (.iadd, 1) := by decide +kernel
theorem dX0_goOn_54 : decode cX0_goOn 54 = .ok (.putfield 47, 3) := by decide +kernel
theorem dX0_goOn_57 : decode cX0_goOn 57 = .ok (.iload_n 2, 1) := by decide +kernel
theorem dX0_goOn_58 : decode cX0_goOn 58 = .ok (.iload 4, 2) := by decide +kernel
theorem dX0_goOn_60 : decode cX0_goOn 60 = .ok (.iadd, 1) := by decide +kernel
theorem dX0_goOn_61 : decode cX0_goOn 61 = .ok (.istore_n 2, 1) := by decide +kernel
theorem dX0_goOn_62 : decode cX0_goOn 62 = .ok (.goto 54, 3) := by decide +kernel
theorem dX0_goOn_65 : decode cX0_goOn 65 = .ok (.aload_n 0, 1) := by decide +kernel
theorem dX0_goOn_66 : decode cX0_goOn 66 = .ok (.invokevirtual 129, 3) := by decide +kernel
theorem dX0_goOn_69 : decode cX0_goOn 69 = .ok (.aload_n 0, 1) := by decide +kernel
theorem dX0_goOn_70 : decode cX0_goOn 70 = .ok (.invokevirtual 132, 3) := by decide +kernel
theorem dX0_goOn_73 : decode cX0_goOn 73 = .ok (.iconst 0, 1) := by decide +kernel
theorem dX0_goOn_74 : decode cX0_goOn 74 = .ok (.istore 5, 2) := by decide +kernel
theorem dX0_goOn_76 : decode cX0_goOn 76 = .ok (.iload 5, 2) := by decide +kernel
theorem dX0_goOn_78 : decode cX0_goOn 78 = .ok (.iconst 4, 1) := by decide +kernel
theorem dX0_goOn_79 : decode cX0_goOn 79 = .ok (.if_icmp .ge 24, 3) := by decide +kernel
theorem dX0_goOn_82 : decode cX0_goOn 82 = .ok (.aload_n 0, 1) := by decide +kernel
theorem dX0_goOn_83 : decode cX0_goOn 83 = .ok (.aload_n 0, 1) := by decide +kernel
theorem dX0_goOn_84 : decode cX0_goOn 84 = .ok (.aload_n 0, 1) := by decide +kernel
theorem dX0_goOn_85 : decode cX0_goOn 85 = .ok (.getfield 34, 3) := by decide +kernel
theorem dX0_goOn_88 : decode cX0_goOn 88 = .ok (.iload 5, 2) := by decide +kernel
theorem dX0_goOn_90 : decode cX0_goOn 90 = .ok (.iaload, 1) := by decide +kernel
theorem dX0_goOn_91 : decode cX0_goOn 91 = .ok (.invokevirtual 89, 3) := by decide +kernel
theorem dX0_goOn_94 : decode cX0_goOn 94 = .ok (.invokevirtual 135, 3) := by decide +kernel
theorem dX0_goOn_97 : decode cX0_goOn 97 = .ok (.iinc 5 1, 3) := by decide +kernel
theorem dX0_goOn_100 : decode cX0_goOn 100 = .ok (.goto (-24), 3) := by decide +kernel
theorem dX0_goOn_103 : decode cX0_goOn 103 = .ok (.aload_n 0, 1) := by decide +kernel
theorem dX0_goOn_104 : decode cX0_goOn 104 = .ok (.dup, 1) := by decide +kernel
theorem dX0_goOn_105 : decode cX0_goOn 105 = .ok (.getfield 47, 3) := by decide +kernel
theorem dX0_goOn_108 : decode cX0_goOn 108 = .ok (.iconst 1, 1) := by decide +kernel
theorem dX0_goOn_109 : decode cX0_goOn 109 = .ok (.iadd, 1) := by decide +kernel
theorem dX0_goOn_110 : decode cX0_goOn 110 = .ok (.putfield 47, 3) := by decide +kernel
theorem dX0_goOn_113 : decode cX0_goOn 113 = .ok (.iinc 2 1, 3) := by decide +kernel
theorem dX0_goOn_116 : decode cX0_goOn 116 = .ok (.iinc 3 1, 3) := by decide +kernel
theorem dX0_goOn_119 : decode cX0_goOn 119 = .ok (.goto (-115), 3) := by decide +kernel
theorem dX0_goOn_122 : decode cX0_goOn 122 = .ok (.iload_n 2, 1) := by decide +kernel
theorem dX0_goOn_123 : decode cX0_goOn 123 = .ok (.ireturn, 1) := by decide +kernel
theorem dX0_quietTicks_0 : decode cX0_quietTicks 0 = .ok (.aload_n 0, 1) := by decide +kernel
theorem dX0_quietTicks_1 : decode cX0_quietTicks 1 = .ok (.getfield 47, 3) := by decide +kernel
theorem dX0_quietTicks_4 : decode cX0_quietTicks 4 = .ok (.iload_n 1, 1) := by decide +kernel
theorem dX0_quietTicks_5 : decode cX0_quietTicks 5 = .ok (.iadd, 1) := by decide +kernel
theorem dX0_quietTicks_6 : decode cX0_quietTicks 6 = .ok (.istore_n 2, 1) := by decide +kernel
theorem dX0_quietTicks_7 : decode cX0_quietTicks 7 = .ok (.iconst 0, 1) := by decide +kernel
theorem dX0_quietTicks_8 : decode cX0_quietTicks 8 = .ok (.istore_n 3, 1) := by decide +kernel
theorem dX0_quietTicks_9 : decode cX0_quietTicks 9 = .ok (.iload_n 3, 1) := by decide +kernel
theorem dX0_quietTicks_10 : decode cX0_quietTicks 10 = .ok (.aload_n 0, 1) := by decide +kernel
theorem dX0_quietTicks_11 : decode cX0_quietTicks 11 = .ok (.getfield 43, 3) := by decide +kernel
theorem dX0_quietTicks_14 : decode cX0_quietTicks 14 = .ok (.if_icmp .ge 73, 3) := by decide +kernel
theorem dX0_quietTicks_17 : decode cX0_quietTicks 17 = .ok (.aload_n 0, 1) := by decide +kernel
theorem dX0_quietTicks_18 : decode cX0_quietTicks 18 = .ok (.getfield 11, 3) := by decide +kernel
theorem dX0_quietTicks_21 : decode cX0_quietTicks 21 = .ok (.iload_n 3, 1) := by decide +kernel
theorem dX0_quietTicks_22 : decode cX0_quietTicks 22 = .ok (.aaload, 1) := by decide +kernel
theorem dX0_quietTicks_23 : decode cX0_quietTicks 23 = .ok (.astore 4, 2) := by decide +kernel
theorem dX0_quietTicks_25 : decode cX0_quietTicks 25 = .ok (.aload 4, 2) := by decide +kernel
theorem dX0_quietTicks_27 : decode cX0_quietTicks 27 = .ok (.getfield 93, 3) := by decide +kernel
theorem dX0_quietTicks_30 : decode cX0_quietTicks 30 = .ok (.ifCond .ne 5, 3) := by decide +kernel
theorem dX0_quietTicks_33 : decode cX0_quietTicks 33 = .ok (.iconst 0, 1) := by decide +kernel
theorem dX0_quietTicks_34 : decode cX0_quietTicks 34 = .ok (.ireturn, 1) := by decide +kernel
theorem dX0_quietTicks_35 : decode cX0_quietTicks 35 = .ok (.aload 4, 2) := by decide +kernel
theorem dX0_quietTicks_37 : decode cX0_quietTicks 37 = .ok (.getfield 93, 3) := by decide +kernel
theorem dX0_quietTicks_40 : decode cX0_quietTicks 40 = .ok (.iconst 3, 1) := by decide +kernel
theorem dX0_quietTicks_41 : decode cX0_quietTicks 41 = .ok (.if_icmp .ne 13, 3) := by decide +kernel
theorem dX0_quietTicks_44 : decode cX0_quietTicks 44 = .ok (.iload_n 2, 1) := by decide +kernel
theorem dX0_quietTicks_45 : decode cX0_quietTicks 45 = .ok (.aload 4, 2) := by decide +kernel
theorem dX0_quietTicks_47 : decode cX0_quietTicks 47 = .ok (.getfield 138, 3) := by decide +kernel
theorem dX0_quietTicks_50 : decode cX0_quietTicks 50 = .ok (.invokestatic 141, 3) := by decide +kernel
theorem dX0_quietTicks_53 : decode cX0_quietTicks 53 = .ok (.istore_n 2, 1) := by decide +kernel
theorem dX0_quietTicks_54 : decode cX0_quietTicks 54 = .ok (.aload 4, 2) := by decide +kernel
theorem dX0_quietTicks_56 : decode cX0_quietTicks 56 = .ok (.getfield 93, 3) := by decide +kernel
theorem dX0_quietTicks_59 : decode cX0_quietTicks 59 = .ok (.iconst 4, 1) := by decide +kernel
theorem dX0_quietTicks_60 : decode cX0_quietTicks 60 = .ok (.if_icmp .eq 21, 3) := by decide +kernel
theorem dX0_quietTicks_63 : decode cX0_quietTicks 63 = .ok (.aload 4, 2) := by decide +kernel
theorem dX0_quietTicks_65 : decode cX0_quietTicks 65 = .ok (.invokevirtual 147, 3) := by decide +kernel
theorem dX0_quietTicks_68 : decode cX0_quietTicks 68 = .ok (.ifCond .eq 13, 3) := by decide +kernel
theorem dX0_quietTicks_71 : decode cX0_quietTicks 71 = .ok (.iload_n 2, 1) := by decide +kernel
theorem dX0_quietTicks_72 : decode cX0_quietTicks 72 = .ok (.aload 4, 2) := by decide +kernel
theorem dX0_quietTicks_74 : decode cX0_quietTicks 74 = .ok (.getfield 150, 3) := by decide +kernel
theorem dX0_quietTicks_77 : decode cX0_quietTicks 77 = .ok (.invokestatic 141, 3) := by decide +kernel
theorem dX0_quietTicks_80 : decode cX0_quietTicks 80 = .ok (.istore_n 2, 1) := by decide +kernel
theorem dX0_quietTicks_81 : decode cX0_quietTicks 81 = .ok (.iinc 3 1, 3) := by decide +kernel
theorem dX0_quietTicks_84 : decode cX0_quietTicks 84 = .ok (.goto (-75), 3) := by decide +kernel
theorem dX0_quietTicks_87 : decode cX0_quietTicks 87 = .ok (.iload_n 2, 1) := by decide +kernel
theorem dX0_quietTicks_88 : decode cX0_quietTicks 88 = .ok (.aload_n 0, 1) := by decide +kernel
theorem dX0_quietTicks_89 : decode cX0_quietTicks 89 = .ok (.getfield 47, 3) := by decide +kernel
theorem dX0_quietTicks_92 : decode cX0_quietTicks 92 = .ok (.isub, 1) := by decide +kernel
theorem dX0_quietTicks_93 : decode cX0_quietTicks 93 = .ok (.ireturn, 1) := by decide +kernel
theorem dX0_wakeAndRefill_0 : decode cX0_wakeAndRefill 0 = .ok (.iconst 0, 1) := by decide +kernel
theorem dX0_wakeAndRefill_1 : decode cX0_wakeAndRefill 1 = .ok (.istore_n 1, 1) := by decide +kernel
theorem dX0_wakeAndRefill_2 : decode cX0_wakeAndRefill 2 = .ok (.iload_n 1, 1) := by decide +kernel
theorem dX0_wakeAndRefill_3 : decode cX0_wakeAndRefill 3 = .ok (.aload_n 0, 1) := by decide +kernel
theorem dX0_wakeAndRefill_4 : decode cX0_wakeAndRefill 4 = .ok (.getfield 43, 3) := by decide +kernel
theorem dX0_wakeAndRefill_7 : decode cX0_wakeAndRefill 7 = .ok (.if_icmp .ge 92, 3) := by decide +kernel
theorem dX0_wakeAndRefill_10 : decode cX0_wakeAndRefill 10 = .ok (.aload_n 0, 1) := by decide +kernel
theorem dX0_wakeAndRefill_11 : decode cX0_wakeAndRefill 11 = .ok (.getfield 11, 3) := by decide +kernel
theorem dX0_wakeAndRefill_14 : decode cX0_wakeAndRefill 14 = .ok (.iload_n 1, 1) := by decide +kernel
theorem dX0_wakeAndRefill_15 : decode cX0_wakeAndRefill 15 = .ok (.aaload, 1) := by decide +kernel
theorem dX0_wakeAndRefill_16 : decode cX0_wakeAndRefill 16 = .ok (.astore_n 2, 1) := by decide +kernel
theorem dX0_wakeAndRefill_17 : decode cX0_wakeAndRefill 17 = .ok (.aload_n 2, 1) := by decide +kernel
theorem dX0_wakeAndRefill_18 : decode cX0_wakeAndRefill 18 = .ok (.getfield 93, 3) := by decide +kernel
theorem dX0_wakeAndRefill_21 : decode cX0_wakeAndRefill 21 = .ok (.iconst 3, 1) := by decide +kernel
theorem dX0_wakeAndRefill_22 : decode cX0_wakeAndRefill 22 = .ok (.if_icmp .ne 18, 3) := by decide +kernel
theorem dX0_wakeAndRefill_25 : decode cX0_wakeAndRefill 25 = .ok (.aload_n 2, 1) := by decide +kernel
theorem dX0_wakeAndRefill_26 : decode cX0_wakeAndRefill 26 = .ok (.getfield 138, 3) := by decide +kernel
theorem dX0_wakeAndRefill_29 : decode cX0_wakeAndRefill 29 = .ok (.aload_n 0, 1) := by decide +kernel
theorem dX0_wakeAndRefill_30 : decode cX0_wakeAndRefill 30 = .ok (.getfield 47, 3) := by decide +kernel
theorem dX0_wakeAndRefill_33 : decode cX0_wakeAndRefill 33 = .ok (.if_icmp .ne 7, 3) := by decide +kernel
theorem dX0_wakeAndRefill_36 : decode cX0_wakeAndRefill 36 = .ok (.aload_n 2, 1) := by decide +kernel
theorem dX0_wakeAndRefill_37 : decode cX0_wakeAndRefill 37 = .ok (.invokevirtual 118, 3) := by decide +kernel
theorem dX0_wakeAndRefill_40 : decode cX0_wakeAndRefill 40 = .ok (.aload_n 2, 1) := by decide +kernel
theorem dX0_wakeAndRefill_41 : decode cX0_wakeAndRefill 41 = .ok (.getfield 93, 3) := by decide +kernel
theorem dX0_wakeAndRefill_44 : decode cX0_wakeAndRefill 44 = .ok (.iconst 4, 1) := by decide +kernel
theorem dX0_wakeAndRefill_45 : decode cX0_wakeAndRefill 45 = .ok (.if_icmp .eq 48, 3) := by decide +kernel
theorem dX0_wakeAndRefill_48 : decode cX0_wakeAndRefill 48 = .ok (.aload_n 2, 1) := by decide +kernel
theorem dX0_wakeAndRefill_49 : decode cX0_wakeAndRefill 49 = .ok (.invokevirtual 147, 3) := by decide +kernel
theorem dX0_wakeAndRefill_52 : decode cX0_wakeAndRefill 52 = .ok (.ifCond .eq 41, 3) := by decide +kernel
theorem dX0_wakeAndRefill_55 : decode cX0_wakeAndRefill 55 = .ok (.aload_n 2, 1) := by decide +kernel
theorem dX0_wakeAndRefill_56 : decode cX0_wakeAndRefill 56 = .ok (.getfield 150, 3) := by decide +kernel
theorem dX0_wakeAndRefill_59 : decode cX0_wakeAndRefill 59 = .ok (.aload_n 0, 1) := by decide +kernel
theorem dX0_wakeAndRefill_60 : decode cX0_wakeAndRefill 60 = .ok (.getfield 47, 3) := by decide +kernel
theorem dX0_wakeAndRefill_63 : decode cX0_wakeAndRefill 63 = .ok (.if_icmp .ne 30, 3) := by decide +kernel
theorem dX0_wakeAndRefill_66 : decode cX0_wakeAndRefill 66 = .ok (.aload_n 2, 1) := by decide +kernel
theorem dX0_wakeAndRefill_67 : decode cX0_wakeAndRefill 67 = .ok (.aload_n 2, 1) := by decide +kernel
theorem dX0_wakeAndRefill_68 : decode cX0_wakeAndRefill 68 = .ok (.getfield 153, 3) := by decide +kernel
theorem dX0_wakeAndRefill_71 : decode cX0_wakeAndRefill 71 = .ok (.aload_n 2, 1) := by decide +kernel
theorem dX0_wakeAndRefill_72 : decode cX0_wakeAndRefill 72 = .ok (.getfield 156, 3) := by decide +kernel
theorem dX0_wakeAndRefill_75 : decode cX0_wakeAndRefill 75 = .ok (.aload_n 0, 1) := by decide +kernel
theorem dX0_wakeAndRefill_76 : decode cX0_wakeAndRefill 76 = .ok (.getfield 47, 3) := by decide +kernel
theorem dX0_wakeAndRefill_79 : decode cX0_wakeAndRefill 79 = .ok (.invokevirtual 104, 3) := by decide +kernel
theorem dX0_wakeAndRefill_82 : decode cX0_wakeAndRefill 82 = .ok (.aload_n 0, 1) := by decide +kernel
theorem dX0_wakeAndRefill_83 : decode cX0_wakeAndRefill 83 = .ok (.getfield 40, 3) := by decide +kernel
theorem dX0_wakeAndRefill_86 : decode cX0_wakeAndRefill 86 = .ok (.bipush 9, 2) := by decide +kernel
theorem dX0_wakeAndRefill_88 : decode cX0_wakeAndRefill 88 = .ok (.dup2, 1) := by decide +kernel
theorem dX0_wakeAndRefill_89 : decode cX0_wakeAndRefill 89 = .ok (.iaload, 1) := by decide +kernel
theorem dX0_wakeAndRefill_90 : decode cX0_wakeAndRefill 90 = .ok (.iconst 1, 1) := by decide +kernel
theorem dX0_wakeAndRefill_91 : decode cX0_wakeAndRefill 91 = .ok (.iadd, 1) := by decide +kernel
theorem dX0_wakeAndRefill_92 : decode cX0_wakeAndRefill 92 = .ok (.iastore, 1) := by decide +kernel
theorem dX0_wakeAndRefill_93 : decode cX0_wakeAndRefill 93 = .ok (.iinc 1 1, 3) := by decide +kernel
theorem dX0_wakeAndRefill_96 : decode cX0_wakeAndRefill 96 = .ok (.goto (-94), 3) := by decide +kernel
theorem dX0_wakeAndRefill_99 : decode cX0_wakeAndRefill 99 = .ok (.return_, 1) := by decide +kernel
theorem dX0_choose_0 : decode cX0_choose 0 = .ok (.aload_n 0, 1) := by decide +kernel
theorem dX0_choose_1 : decode cX0_choose 1 = .ok (.invokevirtual 159, 3) := by decide +kernel
theorem dX0_choose_4 : decode cX0_choose 4 = .ok (.aload_n 0, 1) := by decide +kernel
theorem dX0_choose_5 : decode cX0_choose 5 = .ok (.getfield 34, 3) := by decide +kernel
theorem dX0_choose_8 : decode cX0_choose 8 = .ok (.iconst (-1), 1) := by decide +kernel
theorem dX0_choose_9 : decode cX0_choose 9 = .ok (.invokestatic 63, 3) := by decide +kernel
theorem dX0_choose_12 : decode cX0_choose 12 = .ok (.ldc2_w 162, 3) := by decide +kernel
theorem dX0_choose_15 : decode cX0_choose 15 = .ok (.lstore_n 1, 1) := by decide +kernel
theorem dX0_choose_16 : decode cX0_choose 16 = .ok (.iconst 0, 1) := by decide +kernel
theorem dX0_choose_17 : decode cX0_choose 17 = .ok (.istore_n 3, 1) := by decide +kernel
theorem dX0_choose_18 : decode cX0_choose 18 = .ok (.iload_n 3, 1) := by decide +kernel
theorem dX0_choose_19 : decode cX0_choose 19 = .ok (.aload_n 0, 1) := by decide +kernel
theorem dX0_choose_20 : decode cX0_choose 20 = .ok (.getfield 50, 3) := by decide +kernel
theorem dX0_choose_23 : decode cX0_choose 23 = .ok (.if_icmp .ge 69, 3) := by decide +kernel
theorem dX0_choose_26 : decode cX0_choose 26 = .ok (.iload_n 3, 1) := by decide +kernel
theorem dX0_choose_27 : decode cX0_choose 27 = .ok (.iconst 4, 1) := by decide +kernel
theorem dX0_choose_28 : decode cX0_choose 28 = .ok (.if_icmp .ge 64, 3) := by decide +kernel
theorem dX0_choose_31 : decode cX0_choose 31 = .ok (.aload_n 0, 1) := by decide +kernel
theorem dX0_choose_32 : decode cX0_choose 32 = .ok (.lload_n 1, 1) := by decide +kernel
theorem dX0_choose_33 : decode cX0_choose 33 = .ok (.invokevirtual 164, 3) := by decide +kernel
theorem dX0_choose_36 : decode cX0_choose 36 = .ok (.astore 4, 2) := by decide +kernel
theorem dX0_choose_38 : decode cX0_choose 38 = .ok (.aload 4, 2) := by decide +kernel
theorem dX0_choose_40 : decode cX0_choose 40 = .ok (.ifnull 46, 3) := by decide +kernel
theorem dX0_choose_43 : decode cX0_choose 43 = .ok (.aload 4, 2) := by decide +kernel
theorem dX0_choose_45 : decode cX0_choose 45 = .ok (.getfield 168, 3) := by decide +kernel
theorem dX0_choose_48 : decode cX0_choose 48 = .ok (.lstore_n 1, 1) := by decide +kernel
theorem dX0_choose_49 : decode cX0_choose 49 = .ok (.aload_n 0, 1) := by decide +kernel
theorem dX0_choose_50 : decode cX0_choose 50 = .ok (.getfield 34, 3) := by decide +kernel
theorem dX0_choose_53 : decode cX0_choose 53 = .ok (.iload_n 3, 1) := by decide +kernel
theorem dX0_choose_54 : decode cX0_choose 54 = .ok (.aload 4, 2) := by decide +kernel
theorem dX0_choose_56 : decode cX0_choose 56 = .ok (.getfield 108, 3) := by decide +kernel
theorem dX0_choose_59 : decode cX0_choose 59 = .ok (.iastore, 1) := by decide +kernel
theorem dX0_choose_60 : decode cX0_choose 60 = .ok (.aload_n 0, 1) := by decide +kernel
theorem dX0_choose_61 : decode cX0_choose 61 = .ok (.getfield 26, 3) := by decide +kernel
theorem dX0_choose_64 : decode cX0_choose 64 = .ok (.aload_n 0, 1) := by decide +kernel
theorem dX0_choose_65 : decode cX0_choose 65 = .ok (.getfield 47, 3) := by decide +kernel
theorem dX0_choose_68 : decode cX0_choose 68 = .ok (.iload_n 3, 1) := by decide +kernel
theorem dX0_choose_69 : decode cX0_choose 69 = .ok (.aload 4, 2) := by decide +kernel
theorem dX0_choose_71 : decode cX0_choose 71 = .ok (.getfield 108, 3) := by decide +kernel
theorem dX0_choose_74 : decode cX0_choose 74 = .ok (.lload_n 1, 1) := by decide +kernel
theorem dX0_choose_75 : decode cX0_choose 75 = .ok (.invokestatic 171, 3) := by decide +kernel
theorem dX0_choose_78 : decode cX0_choose 78 = .ok (.lload_n 1, 1) := by decide +kernel
theorem dX0_choose_79 : decode cX0_choose 79 = .ok (.invokestatic 175, 3) := by decide +kernel
theorem dX0_choose_82 : decode cX0_choose 82 = .ok (.l2i, 1) := by decide +kernel
theorem dX0_choose_83 : decode cX0_choose 83 = .ok (.invokevirtual 179, 3) := by decide +kernel
theorem dX0_choose_86 : decode cX0_choose 86 = .ok (.iinc 3 1, 3) := by decide +kernel
theorem dX0_choose_89 : decode cX0_choose 89 = .ok (.goto (-71), 3) := by decide +kernel
theorem dX0_choose_92 : decode cX0_choose 92 = .ok (.return_, 1) := by decide +kernel
theorem dX0_foremostBehind_0 : decode cX0_foremostBehind 0 = .ok (.aconst_null, 1) := by decide +kernel
theorem dX0_foremostBehind_1 : decode cX0_foremostBehind 1 = .ok (.astore_n 3, 1) := by decide +kernel
theorem dX0_foremostBehind_2 : decode cX0_foremostBehind 2 = .ok (.iconst 0, 1) := by decide +kernel
theorem dX0_foremostBehind_3 : decode cX0_foremostBehind 3 = .ok (.istore 4, 2) := by decide +kernel
theorem dX0_foremostBehind_5 : decode cX0_foremostBehind 5 = .ok (.iload 4, 2) := by decide +kernel
theorem dX0_foremostBehind_7 : decode cX0_foremostBehind 7 = .ok (.aload_n 0, 1) := by decide +kernel
theorem dX0_foremostBehind_8 : decode cX0_foremostBehind 8 = .ok (.getfield 43, 3) := by decide +kernel
theorem dX0_foremostBehind_11 : decode cX0_foremostBehind 11 = .ok (.if_icmp .ge 56, 3) := by decide +kernel
theorem dX0_foremostBehind_14 : decode cX0_foremostBehind 14 = .ok (.aload_n 0, 1) := by decide +kernel
theorem dX0_foremostBehind_15 : decode cX0_foremostBehind 15 = .ok (.getfield 11, 3) := by decide +kernel
theorem dX0_foremostBehind_18 : decode cX0_foremostBehind 18 = .ok (.iload 4, 2) := by decide +kernel
theorem dX0_foremostBehind_20 : decode cX0_foremostBehind 20 = .ok (.aaload, 1) := by decide +kernel
theorem dX0_foremostBehind_21 : decode cX0_foremostBehind 21 = .ok (.astore 5, 2) := by decide +kernel
theorem dX0_foremostBehind_23 : decode cX0_foremostBehind 23 = .ok (.aload 5, 2) := by decide +kernel
theorem dX0_foremostBehind_25 : decode cX0_foremostBehind 25 = .ok (.getfield 93, 3) := by decide +kernel
theorem dX0_foremostBehind_28 : decode cX0_foremostBehind 28 = .ok (.ifCond .ne 33, 3) := by decide +kernel
theorem dX0_foremostBehind_31 : decode cX0_foremostBehind 31 = .ok (.aload 5, 2) := by decide +kernel
theorem dX0_foremostBehind_33 : decode cX0_foremostBehind 33 = .ok (.getfield 168, 3) := by decide +kernel
theorem dX0_foremostBehind_36 : decode cX0_foremostBehind 36 = .ok (.lload_n 1, 1) := by decide +kernel
theorem dX0_foremostBehind_37 : decode cX0_foremostBehind 37 = .ok (.lcmp, 1) := by decide +kernel
theorem dX0_foremostBehind_38 : decode cX0_foremostBehind 38 = .ok (.ifCond .le 23, 3) := by decide +kernel
theorem dX0_foremostBehind_41 : decode cX0_foremostBehind 41 = .ok (.aload_n 3, 1) := by decide +kernel
theorem dX0_foremostBehind_42 : decode cX0_foremostBehind 42 = .ok (.ifnull 16, 3) := by decide +kernel
theorem dX0_foremostBehind_45 : decode cX0_foremostBehind 45 = .ok (.aload 5, 2) := by decide +kernel
theorem dX0_foremostBehind_47 : decode cX0_foremostBehind 47 = .ok (.getfield 168, 3) := by decide +kernel
theorem dX0_foremostBehind_50 : decode cX0_foremostBehind 50 = .ok (.aload_n 3, 1) := by decide +kernel
theorem dX0_foremostBehind_51 : decode cX0_foremostBehind 51 = .ok (.getfield 168, 3) := by decide +kernel
theorem dX0_foremostBehind_54 : decode cX0_foremostBehind 54 = .ok (.lcmp, 1) := by decide +kernel
theorem dX0_foremostBehind_55 : decode cX0_foremostBehind 55 = .ok (.ifCond .ge 6, 3) := by decide +kernel
theorem dX0_foremostBehind_58 : decode cX0_foremostBehind 58 = .ok (.aload 5, 2) := by decide +kernel
theorem dX0_foremostBehind_60 : decode cX0_foremostBehind 60 = .ok (.astore_n 3, 1) := by decide +kernel
theorem dX0_foremostBehind_61 : decode cX0_foremostBehind 61 = .ok (.iinc 4 1, 3) := by decide +kernel
theorem dX0_foremostBehind_64 : decode cX0_foremostBehind 64 = .ok (.goto (-59), 3) := by decide +kernel
theorem dX0_foremostBehind_67 : decode cX0_foremostBehind 67 = .ok (.aload_n 3, 1) := by decide +kernel
theorem dX0_foremostBehind_68 : decode cX0_foremostBehind 68 = .ok (.areturn, 1) := by decide +kernel
theorem dX0_settle_0 : decode cX0_settle 0 = .ok (.iconst 0, 1) := by decide +kernel
theorem dX0_settle_1 : decode cX0_settle 1 = .ok (.istore_n 1, 1) := by decide +kernel
theorem dX0_settle_2 : decode cX0_settle 2 = .ok (.iload_n 1, 1) := by decide +kernel
theorem dX0_settle_3 : decode cX0_settle 3 = .ok (.aload_n 0, 1) := by decide +kernel
theorem dX0_settle_4 : decode cX0_settle 4 = .ok (.getfield 43, 3) := by decide +kernel
theorem dX0_settle_7 : decode cX0_settle 7 = .ok (.if_icmp .ge 27, 3) := by decide +kernel
theorem dX0_settle_10 : decode cX0_settle 10 = .ok (.aload_n 0, 1) := by decide +kernel
theorem dX0_settle_11 : decode cX0_settle 11 = .ok (.getfield 11, 3) := by decide +kernel
theorem dX0_settle_14 : decode cX0_settle 14 = .ok (.iload_n 1, 1) := by decide +kernel
theorem dX0_settle_15 : decode cX0_settle 15 = .ok (.aaload, 1) := by decide +kernel
theorem dX0_settle_16 : decode cX0_settle 16 = .ok (.aload_n 0, 1) := by decide +kernel
theorem dX0_settle_17 : decode cX0_settle 17 = .ok (.getfield 11, 3) := by decide +kernel
theorem dX0_settle_20 : decode cX0_settle 20 = .ok (.iload_n 1, 1) := by decide +kernel
theorem dX0_settle_21 : decode cX0_settle 21 = .ok (.aaload, 1) := by decide +kernel
theorem dX0_settle_22 : decode cX0_settle 22 = .ok (.invokevirtual 183, 3) := by decide +kernel
theorem dX0_settle_25 : decode cX0_settle 25 = .ok (.putfield 168, 3) := by decide +kernel
theorem dX0_settle_28 : decode cX0_settle 28 = .ok (.iinc 1 1, 3) := by decide +kernel
theorem dX0_settle_31 : decode cX0_settle 31 = .ok (.goto (-29), 3) := by decide +kernel
theorem dX0_settle_34 : decode cX0_settle 34 = .ok (.iconst 0, 1) := by decide +kernel
theorem dX0_settle_35 : decode cX0_settle 35 = .ok (.istore_n 1, 1) := by decide +kernel
theorem dX0_settle_36 : decode cX0_settle 36 = .ok (.iload_n 1, 1) := by decide +kernel
theorem dX0_settle_37 : decode cX0_settle 37 = .ok (.aload_n 0, 1) := by decide +kernel
theorem dX0_settle_38 : decode cX0_settle 38 = .ok (.getfield 43, 3) := by decide +kernel
theorem dX0_settle_41 : decode cX0_settle 41 = .ok (.if_icmp .ge 77, 3) := by decide +kernel
theorem dX0_settle_44 : decode cX0_settle 44 = .ok (.aload_n 0, 1) := by decide +kernel
theorem dX0_settle_45 : decode cX0_settle 45 = .ok (.getfield 11, 3) := by decide +kernel
theorem dX0_settle_48 : decode cX0_settle 48 = .ok (.iload_n 1, 1) := by decide +kernel
theorem dX0_settle_49 : decode cX0_settle 49 = .ok (.aaload, 1) := by decide +kernel
theorem dX0_settle_50 : decode cX0_settle 50 = .ok (.getfield 168, 3) := by decide +kernel
theorem dX0_settle_53 : decode cX0_settle 53 = .ok (.lstore_n 2, 1) := by decide +kernel
theorem dX0_settle_54 : decode cX0_settle 54 = .ok (.aload_n 0, 1) := by decide +kernel
theorem dX0_settle_55 : decode cX0_settle 55 = .ok (.aload_n 0, 1) := by decide +kernel
theorem dX0_settle_56 : decode cX0_settle 56 = .ok (.getfield 11, 3) := by decide +kernel
theorem dX0_settle_59 : decode cX0_settle 59 = .ok (.iload_n 1, 1) := by decide +kernel
theorem dX0_settle_60 : decode cX0_settle 60 = .ok (.aaload, 1) := by decide +kernel
theorem dX0_settle_61 : decode cX0_settle 61 = .ok (.invokevirtual 186, 3) := by decide +kernel
theorem dX0_settle_64 : decode cX0_settle 64 = .ok (.astore 4, 2) := by decide +kernel
theorem dX0_settle_66 : decode cX0_settle 66 = .ok (.iconst 0, 1) := by decide +kernel
theorem dX0_settle_67 : decode cX0_settle 67 = .ok (.istore 5, 2) := by decide +kernel
theorem dX0_settle_69 : decode cX0_settle 69 = .ok (.iload 5, 2) := by decide +kernel
theorem dX0_settle_71 : decode cX0_settle 71 = .ok (.sipush 200, 3) := by decide +kernel
theorem dX0_settle_74 : decode cX0_settle 74 = .ok (.if_icmp .ge 38, 3) := by decide +kernel
theorem dX0_settle_77 : decode cX0_settle 77 = .ok (.aload 4, 2) := by decide +kernel
theorem dX0_settle_79 : decode cX0_settle 79 = .ok (.ifnull 33, 3) := by decide +kernel
theorem dX0_settle_82 : decode cX0_settle 82 = .ok (.aload 4, 2) := by decide +kernel
theorem dX0_settle_84 : decode cX0_settle 84 = .ok (.getfield 168, 3) := by decide +kernel
theorem dX0_settle_87 : decode cX0_settle 87 = .ok (.lload_n 2, 1) := by decide +kernel
theorem dX0_settle_88 : decode cX0_settle 88 = .ok (.lcmp, 1) := by decide +kernel
theorem dX0_settle_89 : decode cX0_settle 89 = .ok (.ifCond .le 23, 3) := by decide +kernel
theorem dX0_settle_92 : decode cX0_settle 92 = .ok (.aload 4, 2) := by decide +kernel
theorem dX0_settle_94 : decode cX0_settle 94 = .ok (.lload_n 2, 1) := by decide +kernel
theorem dX0_settle_95 : decode cX0_settle 95 = .ok (.putfield 168, 3) := by decide +kernel
theorem dX0_settle_98 : decode cX0_settle 98 = .ok (.aload_n 0, 1) := by decide +kernel
theorem dX0_settle_99 : decode cX0_settle 99 = .ok (.aload 4, 2) := by decide +kernel
theorem dX0_settle_101 : decode cX0_settle 101 = .ok (.invokevirtual 186, 3) := by decide +kernel
theorem dX0_settle_104 : decode cX0_settle 104 = .ok (.astore 4, 2) := by decide +kernel
theorem dX0_settle_106 : decode cX0_settle 106 = .ok (.iinc 5 1, 3) := by decide +kernel
theorem dX0_settle_109 : decode cX0_settle 109 = .ok (.goto (-40), 3) := by decide +kernel
theorem dX0_settle_112 : decode cX0_settle 112 = .ok (.iinc 1 1, 3) := by decide +kernel
theorem dX0_settle_115 : decode cX0_settle 115 = .ok (.goto (-79), 3) := by decide +kernel
theorem dX0_settle_118 : decode cX0_settle 118 = .ok (.return_, 1) := by decide +kernel
theorem dX0_blockerOf_0 : decode cX0_blockerOf 0 = .ok (.aload_n 1, 1) := by decide +kernel
theorem dX0_blockerOf_1 : decode cX0_blockerOf 1 = .ok (.getfield 93, 3) := by decide +kernel
theorem dX0_blockerOf_4 : decode cX0_blockerOf 4 = .ok (.iconst 1, 1) := by decide +kernel
theorem dX0_blockerOf_5 : decode cX0_blockerOf 5 = .ok (.if_icmp .ne 10, 3) := by decide +kernel
theorem dX0_blockerOf_8 : decode cX0_blockerOf 8 = .ok (.aload_n 1, 1) := by decide +kernel
theorem dX0_blockerOf_9 : decode cX0_blockerOf 9 = .ok (.getfield 115, 3) := by decide +kernel
theorem dX0_blockerOf_12 : decode cX0_blockerOf 12 = .ok (.goto 4, 3) := by decide +kernel
theorem dX0_blockerOf_15 : decode cX0_blockerOf 15 = .ok (.iconst (-1), 1) := by decide +kernel
theorem dX0_blockerOf_16 : decode cX0_blockerOf 16 = .ok (.istore_n 2, 1) := by decide +kernel
theorem dX0_blockerOf_17 : decode cX0_blockerOf 17 = .ok (.iload_n 2, 1) := by decide +kernel
theorem dX0_blockerOf_18 : decode cX0_blockerOf 18 = .ok (.ifCond .lt 18, 3) := by decide +kernel
theorem dX0_blockerOf_21 : decode cX0_blockerOf 21 = .ok (.iload_n 2, 1) := by decide +kernel
theorem dX0_blockerOf_22 : decode cX0_blockerOf 22 = .ok (.bipush 100, 2) := by decide +kernel
theorem dX0_blockerOf_24 : decode cX0_blockerOf 24 = .ok (.if_icmp .ge 12, 3) := by decide +kernel
theorem dX0_blockerOf_27 : decode cX0_blockerOf 27 = .ok (.aload_n 0, 1) := by decide +kernel
theorem dX0_blockerOf_28 : decode cX0_blockerOf 28 = .ok (.getfield 30, 3) := by decide +kernel
theorem dX0_blockerOf_31 : decode cX0_blockerOf 31 = .ok (.iload_n 2, 1) := by decide +kernel
theorem dX0_blockerOf_32 : decode cX0_blockerOf 32 = .ok (.iaload, 1) := by decide +kernel
theorem dX0_blockerOf_33 : decode cX0_blockerOf 33 = .ok (.goto 4, 3) := by decide +kernel
theorem dX0_blockerOf_36 : decode cX0_blockerOf 36 = .ok (.iconst (-1), 1) := by decide +kernel
theorem dX0_blockerOf_37 : decode cX0_blockerOf 37 = .ok (.istore_n 3, 1) := by decide +kernel
theorem dX0_blockerOf_38 : decode cX0_blockerOf 38 = .ok (.iload_n 3, 1) := by decide +kernel
theorem dX0_blockerOf_39 : decode cX0_blockerOf 39 = .ok (.ifCond .lt 20, 3) := by decide +kernel
theorem dX0_blockerOf_42 : decode cX0_blockerOf 42 = .ok (.iload_n 3, 1) := by decide +kernel
theorem dX0_blockerOf_43 : decode cX0_blockerOf 43 = .ok (.aload_n 0, 1) := by decide +kernel
theorem dX0_blockerOf_44 : decode cX0_blockerOf 44 = .ok (.getfield 43, 3) := by decide +kernel
theorem dX0_blockerOf_47 : decode cX0_blockerOf 47 = .ok (.if_icmp .ge 12, 3) := by decide +kernel
theorem dX0_blockerOf_50 : decode cX0_blockerOf 50 = .ok (.aload_n 0, 1) := by decide +kernel
theorem dX0_blockerOf_51 : decode cX0_blockerOf 51 = .ok (.getfield 11, 3) := by decide +kernel
theorem dX0_blockerOf_54 : decode cX0_blockerOf 54 = .ok (.iload_n 3, 1) := by decide +kernel
theorem dX0_blockerOf_55 : decode cX0_blockerOf 55 = .ok (.aaload, 1) := by decide +kernel
theorem dX0_blockerOf_56 : decode cX0_blockerOf 56 = .ok (.goto 4, 3) := by decide +kernel
theorem dX0_blockerOf_59 : decode cX0_blockerOf 59 = .ok (.aconst_null, 1) := by decide +kernel
theorem dX0_blockerOf_60 : decode cX0_blockerOf 60 = .ok (.areturn, 1) := by decide +kernel
theorem dX0_turn_0 : decode cX0_turn 0 = .ok (.aload_n 1, 1) := by decide +kernel
theorem dX0_turn_1 : decode cX0_turn 1 = .ok (.ifnonnull 4, 3) := by decide +kernel
theorem dX0_turn_4 : decode cX0_turn 4 = .ok (.return_, 1) := by decide +kernel
theorem dX0_turn_5 : decode cX0_turn 5 = .ok (.aload_n 0, 1) := by decide +kernel
theorem dX0_turn_6 : decode cX0_turn 6 = .ok (.aload_n 1, 1) := by decide +kernel
theorem dX0_turn_7 : decode cX0_turn 7 = .ok (.invokevirtual 190, 3) := by decide +kernel
theorem dX0_turn_10 : decode cX0_turn 10 = .ok (.iconst (-1), 1) := by decide +kernel
theorem dX0_turn_11 : decode cX0_turn 11 = .ok (.istore_n 2, 1) := by decide +kernel
theorem dX0_turn_12 : decode cX0_turn 12 = .ok (.iconst 0, 1) := by decide +kernel
theorem dX0_turn_13 : decode cX0_turn 13 = .ok (.istore_n 3, 1) := by decide +kernel
theorem dX0_turn_14 : decode cX0_turn 14 = .ok (.iload_n 3, 1) := by decide +kernel
theorem dX0_turn_15 : decode cX0_turn 15 = .ok (.sipush 1000, 3) := by decide +kernel
theorem dX0_turn_18 : decode cX0_turn 18 = .ok (.if_icmp .gt 20, 3) := by decide +kernel
theorem dX0_turn_21 : decode cX0_turn 21 = .ok (.iload_n 2, 1) := by decide +kernel
theorem dX0_turn_22 : decode cX0_turn 22 = .ok (.iconst (-1), 1) := by decide +kernel
theorem dX0_turn_23 : decode cX0_turn 23 = .ok (.if_icmp .ne 15, 3) := by decide +kernel
theorem dX0_turn_26 : decode cX0_turn 26 = .ok (.aload_n 0, 1) := by decide +kernel
theorem dX0_turn_27 : decode cX0_turn 27 = .ok (.aload_n 1, 1) := by decide +kernel
theorem dX0_turn_28 : decode cX0_turn 28 = .ok (.invokevirtual 193, 3) := by decide +kernel
theorem dX0_turn_31 : decode cX0_turn 31 = .ok (.istore_n 2, 1) := by decide +kernel
theorem dX0_turn_32 : decode cX0_turn 32 = .ok (.iinc 3 1, 3) := by decide +kernel
theorem dX0_turn_35 : decode cX0_turn 35 = .ok (.goto (-21), 3) := by decide +kernel
theorem dX0_turn_38 : decode cX0_turn 38 = .ok (.iload_n 2, 1) := by decide +kernel
theorem dX0_turn_39 : decode cX0_turn 39 = .ok (.ifCond .lt 9, 3) := by decide +kernel
theorem dX0_turn_42 : decode cX0_turn 42 = .ok (.aload_n 0, 1) := by decide +kernel
theorem dX0_turn_43 : decode cX0_turn 43 = .ok (.aload_n 1, 1) := by decide +kernel
theorem dX0_turn_44 : decode cX0_turn 44 = .ok (.iload_n 2, 1) := by decide +kernel
theorem dX0_turn_45 : decode cX0_turn 45 = .ok (.invokevirtual 197, 3) := by decide +kernel
theorem dX0_turn_48 : decode cX0_turn 48 = .ok (.return_, 1) := by decide +kernel
theorem dX0_pay_0 : decode cX0_pay 0 = .ok (.aload_n 0, 1) := by decide +kernel
theorem dX0_pay_1 : decode cX0_pay 1 = .ok (.getfield 40, 3) := by decide +kernel
theorem dX0_pay_4 : decode cX0_pay 4 = .ok (.aload_n 1, 1) := by decide +kernel
theorem dX0_pay_5 : decode cX0_pay 5 = .ok (.invokevirtual 147, 3) := by decide +kernel
theorem dX0_pay_8 : decode cX0_pay 8 = .ok (.ifCond .eq 8, 3) := by decide +kernel
theorem dX0_pay_11 : decode cX0_pay 11 = .ok (.bipush 7, 2) := by decide +kernel
theorem dX0_pay_13 : decode cX0_pay 13 = .ok (.goto 5, 3) := by decide +kernel
theorem dX0_pay_16 : decode cX0_pay 16 = .ok (.bipush 6, 2) := by decide +kernel
theorem dX0_pay_18 : decode cX0_pay 18 = .ok (.dup2, 1) := by decide +kernel
theorem dX0_pay_19 : decode cX0_pay 19 = .ok (.iaload, 1) := by decide +kernel
theorem dX0_pay_20 : decode cX0_pay 20 = .ok (.iconst 1, 1) := by decide +kernel
theorem dX0_pay_21 : decode cX0_pay 21 = .ok (.iadd, 1) := by decide +kernel
theorem dX0_pay_22 : decode cX0_pay 22 = .ok (.iastore, 1) := by decide +kernel
theorem dX0_pay_23 : decode cX0_pay 23 = .ok (.aload_n 1, 1) := by decide +kernel
theorem dX0_pay_24 : decode cX0_pay 24 = .ok (.getfield 201, 3) := by decide +kernel
theorem dX0_pay_27 : decode cX0_pay 27 = .ok (.ifCond .le 22, 3) := by decide +kernel
theorem dX0_pay_30 : decode cX0_pay 30 = .ok (.aload_n 1, 1) := by decide +kernel
theorem dX0_pay_31 : decode cX0_pay 31 = .ok (.dup, 1) := by decide +kernel
theorem dX0_pay_32 : decode cX0_pay 32 = .ok (.getfield 201, 3) := by decide +kernel
theorem dX0_pay_35 : decode cX0_pay 35 = .ok (.iconst 1, 1) := by decide +kernel
theorem dX0_pay_36 : decode cX0_pay 36 = .ok (.isub, 1) := by decide +kernel
theorem dX0_pay_37 : decode cX0_pay 37 = .ok (.putfield 201, 3) := by decide +kernel
theorem dX0_pay_40 : decode cX0_pay 40 = .ok (.aload_n 1, 1) := by decide +kernel
theorem dX0_pay_41 : decode cX0_pay 41 = .ok (.getfield 204, 3) := by decide +kernel
theorem dX0_pay_44 : decode cX0_pay 44 = .ok (.iconst 1, 1) := by decide +kernel
theorem dX0_pay_45 : decode cX0_pay 45 = .ok (.if_icmp .ne 4, 3) := by decide +kernel
theorem dX0_pay_48 : decode cX0_pay 48 = .ok (.return_, 1) := by decide +kernel
theorem dX0_pay_49 : decode cX0_pay 49 = .ok (.aload_n 1, 1) := by decide +kernel
theorem dX0_pay_50 : decode cX0_pay 50 = .ok (.getfield 204, 3) := by decide +kernel
theorem dX0_pay_53 : decode cX0_pay 53 = .ok (.iconst 2, 1) := by decide +kernel
theorem dX0_pay_54 : decode cX0_pay 54 = .ok (.if_icmp .ne 13, 3) := by decide +kernel
theorem dX0_pay_57 : decode cX0_pay 57 = .ok (.aload_n 0, 1) := by decide +kernel
theorem dX0_pay_58 : decode cX0_pay 58 = .ok (.getfield 40, 3) := by decide +kernel
theorem dX0_pay_61 : decode cX0_pay 61 = .ok (.iconst 1, 1) := by decide +kernel
theorem dX0_pay_62 : decode cX0_pay 62 = .ok (.dup2, 1) := by decide +kernel
theorem dX0_pay_63 : decode cX0_pay 63 = .ok (.iaload, 1) := by decide +kernel
theorem dX0_pay_64 : decode cX0_pay 64 = .ok (.iconst 1, 1) := by decide +kernel
theorem dX0_pay_65 : decode cX0_pay 65 = .ok (.iadd, 1) := by decide +kernel
theorem dX0_pay_66 : decode cX0_pay 66 = .ok (.iastore, 1) := by decide +kernel
theorem dX0_pay_67 : decode cX0_pay 67 = .ok (.aload_n 1, 1) := by decide +kernel
theorem dX0_pay_68 : decode cX0_pay 68 = .ok (.getfield 204, 3) := by decide +kernel
theorem dX0_pay_71 : decode cX0_pay 71 = .ok (.iconst 4, 1) := by decide +kernel
theorem dX0_pay_72 : decode cX0_pay 72 = .ok (.if_icmp .ne 27, 3) := by decide +kernel
theorem dX0_pay_75 : decode cX0_pay 75 = .ok (.aload_n 0, 1) := by decide +kernel
theorem dX0_pay_76 : decode cX0_pay 76 = .ok (.getfield 40, 3) := by decide +kernel
theorem dX0_pay_79 : decode cX0_pay 79 = .ok (.iconst 2, 1) := by decide +kernel
theorem dX0_pay_80 : decode cX0_pay 80 = .ok (.dup2, 1) := by decide +kernel
theorem dX0_pay_81 : decode cX0_pay 81 = .ok (.iaload, 1) := by decide +kernel
theorem dX0_pay_82 : decode cX0_pay 82 = .ok (.iconst 1, 1) := by decide +kernel
theorem dX0_pay_83 : decode cX0_pay 83 = .ok (.iadd, 1) := by decide +kernel
theorem dX0_pay_84 : decode cX0_pay 84 = .ok (.iastore, 1) := by decide +kernel
theorem dX0_pay_85 : decode cX0_pay 85 = .ok (.aload_n 0, 1) := by decide +kernel
theorem dX0_pay_86 : decode cX0_pay 86 = .ok (.getfield 40, 3) := by decide +kernel
theorem dX0_pay_89 : decode cX0_pay 89 = .ok (.iconst 0, 1) := by decide +kernel
theorem dX0_pay_90 : decode cX0_pay 90 = .ok (.dup2, 1) := by decide +kernel
theorem dX0_pay_91 : decode cX0_pay 91 = .ok (.iaload, 1) := by decide +kernel
theorem dX0_pay_92 : decode cX0_pay 92 = .ok (.iconst 1, 1) := by decide +kernel
theorem dX0_pay_93 : decode cX0_pay 93 = .ok (.iadd, 1) := by decide +kernel
theorem dX0_pay_94 : decode cX0_pay 94 = .ok (.iastore, 1) := by decide +kernel
theorem dX0_pay_95 : decode cX0_pay 95 = .ok (.aload_n 1, 1) := by decide +kernel
theorem dX0_pay_96 : decode cX0_pay 96 = .ok (.invokevirtual 207, 3) := by decide +kernel
theorem dX0_pay_99 : decode cX0_pay 99 = .ok (.aload_n 0, 1) := by decide +kernel
theorem dX0_pay_100 : decode cX0_pay 100 = .ok (.getfield 40, 3) := by decide +kernel
theorem dX0_pay_103 : decode cX0_pay 103 = .ok (.iconst 0, 1) := by decide +kernel
theorem dX0_pay_104 : decode cX0_pay 104 = .ok (.dup2, 1) := by decide +kernel
theorem dX0_pay_105 : decode cX0_pay 105 = .ok (.iaload, 1) := by decide +kernel
theorem dX0_pay_106 : decode cX0_pay 106 = .ok (.iconst 1, 1) := by decide +kernel
theorem dX0_pay_107 : decode cX0_pay 107 = .ok (.iadd, 1) := by decide +kernel
theorem dX0_pay_108 : decode cX0_pay 108 = .ok (.iastore, 1) := by decide +kernel
theorem dX0_pay_109 : decode cX0_pay 109 = .ok (.aload_n 1, 1) := by decide +kernel
theorem dX0_pay_110 : decode cX0_pay 110 = .ok (.invokevirtual 207, 3) := by decide +kernel
theorem dX0_pay_113 : decode cX0_pay 113 = .ok (.return_, 1) := by decide +kernel
theorem dX0_end_0 : decode cX0_end 0 = .ok (.aload_n 1, 1) := by decide +kernel
theorem dX0_end_1 : decode cX0_end 1 = .ok (.iconst 4, 1) := by decide +kernel
theorem dX0_end_2 : decode cX0_end 2 = .ok (.putfield 93, 3) := by decide +kernel
theorem dX0_end_5 : decode cX0_end 5 = .ok (.aload_n 1, 1) := by decide +kernel
theorem dX0_end_6 : decode cX0_end 6 = .ok (.iload_n 2, 1) := by decide +kernel
theorem dX0_end_7 : decode cX0_end 7 = .ok (.putfield 210, 3) := by decide +kernel
theorem dX0_end_10 : decode cX0_end 10 = .ok (.iconst 0, 1) := by decide +kernel
theorem dX0_end_11 : decode cX0_end 11 = .ok (.istore_n 3, 1) := by decide +kernel
theorem dX0_end_12 : decode cX0_end 12 = .ok (.iload_n 3, 1) := by decide +kernel
theorem dX0_end_13 : decode cX0_end 13 = .ok (.bipush 100, 2) := by decide +kernel
theorem dX0_end_15 : decode cX0_end 15 = .ok (.if_icmp .ge 31, 3) := by decide +kernel
theorem dX0_end_18 : decode cX0_end 18 = .ok (.aload_n 0, 1) := by decide +kernel
theorem dX0_end_19 : decode cX0_end 19 = .ok (.getfield 30, 3) := by decide +kernel
theorem dX0_end_22 : decode cX0_end 22 = .ok (.iload_n 3, 1) := by decide +kernel
theorem dX0_end_23 : decode cX0_end 23 = .ok (.iaload, 1) := by decide +kernel
theorem dX0_end_24 : decode cX0_end 24 = .ok (.aload_n 1, 1) := by decide +kernel
theorem dX0_end_25 : decode cX0_end 25 = .ok (.getfield 108, 3) := by decide +kernel
theorem dX0_end_28 : decode cX0_end 28 = .ok (.if_icmp .ne 12, 3) := by decide +kernel
theorem dX0_end_31 : decode cX0_end 31 = .ok (.aload_n 0, 1) := by decide +kernel
theorem dX0_end_32 : decode cX0_end 32 = .ok (.invokevirtual 159, 3) := by decide +kernel
theorem dX0_end_35 : decode cX0_end 35 = .ok (.aload_n 0, 1) := by decide +kernel
theorem dX0_end_36 : decode cX0_end 36 = .ok (.iload_n 3, 1) := by decide +kernel
theorem dX0_end_37 : decode cX0_end 37 = .ok (.invokevirtual 213, 3) := by decide +kernel
theorem dX0_end_40 : decode cX0_end 40 = .ok (.iinc 3 1, 3) := by decide +kernel
theorem dX0_end_43 : decode cX0_end 43 = .ok (.goto (-31), 3) := by decide +kernel
theorem dX0_end_46 : decode cX0_end 46 = .ok (.return_, 1) := by decide +kernel
theorem dX0_handOver_0 : decode cX0_handOver 0 = .ok (.aconst_null, 1) := by decide +kernel
theorem dX0_handOver_1 : decode cX0_handOver 1 = .ok (.astore_n 2, 1) := by decide +kernel
theorem dX0_handOver_2 : decode cX0_handOver 2 = .ok (.iconst 0, 1) := by decide +kernel
theorem dX0_handOver_3 : decode cX0_handOver 3 = .ok (.istore_n 3, 1) := by decide +kernel
theorem dX0_handOver_4 : decode cX0_handOver 4 = .ok (.iload_n 3, 1) := by decide +kernel
theorem dX0_handOver_5 : decode cX0_handOver 5 = .ok (.aload_n 0, 1) := by decide +kernel
theorem dX0_handOver_6 : decode cX0_handOver 6 = .ok (.getfield 43, 3) := by decide +kernel
theorem dX0_handOver_9 : decode cX0_handOver 9 = .ok (.if_icmp .ge 55, 3) := by decide +kernel
theorem dX0_handOver_12 : decode cX0_handOver 12 = .ok (.aload_n 0, 1) := by decide +kernel
theorem dX0_handOver_13 : decode cX0_handOver 13 = .ok (.getfield 11, 3) := by decide +kernel
theorem dX0_handOver_16 : decode cX0_handOver 16 = .ok (.iload_n 3, 1) := by decide +kernel
theorem dX0_handOver_17 : decode cX0_handOver 17 = .ok (.aaload, 1) := by decide +kernel
theorem dX0_handOver_18 : decode cX0_handOver 18 = .ok (.astore 4, 2) := by decide +kernel
theorem dX0_handOver_20 : decode cX0_handOver 20 = .ok (.aload 4, 2) := by decide +kernel
theorem dX0_handOver_22 : decode cX0_handOver 22 = .ok (.getfield 93, 3) := by decide +kernel
theorem dX0_handOver_25 : decode cX0_handOver 25 = .ok (.iconst 1, 1) := by decide +kernel
theorem dX0_handOver_26 : decode cX0_handOver 26 = .ok (.if_icmp .ne 32, 3) := by decide +kernel
theorem dX0_handOver_29 : decode cX0_handOver 29 = .ok (.aload 4, 2) := by decide +kernel
theorem dX0_handOver_31 : decode cX0_handOver 31 = .ok (.getfield 115, 3) := by decide +kernel
theorem dX0_handOver_34 : decode cX0_handOver 34 = .ok (.iload_n 1, 1) := by decide +kernel
theorem dX0_handOver_35 : decode cX0_handOver 35 = .ok (.if_icmp .ne 23, 3) := by decide +kernel
theorem dX0_handOver_38 : decode cX0_handOver 38 = .ok (.aload_n 2, 1) := by decide +kernel
theorem dX0_handOver_39 : decode cX0_handOver 39 = .ok (.ifnull 16, 3) := by decide +kernel
theorem dX0_handOver_42 : decode cX0_handOver 42 = .ok (.aload 4, 2) := by decide +kernel
theorem dX0_handOver_44 : decode cX0_handOver 44 = .ok (.getfield 168, 3) := by decide +kernel
theorem dX0_handOver_47 : decode cX0_handOver 47 = .ok (.aload_n 2, 1) := by decide +kernel
theorem dX0_handOver_48 : decode cX0_handOver 48 = .ok (.getfield 168, 3) := by decide +kernel
theorem dX0_handOver_51 : decode cX0_handOver 51 = .ok (.lcmp, 1) := by decide +kernel
theorem dX0_handOver_52 : decode cX0_handOver 52 = .ok (.ifCond .ge 6, 3) := by decide +kernel
theorem dX0_handOver_55 : decode cX0_handOver 55 = .ok (.aload 4, 2) := by decide +kernel
theorem dX0_handOver_57 : decode cX0_handOver 57 = .ok (.astore_n 2, 1) := by decide +kernel
theorem dX0_handOver_58 : decode cX0_handOver 58 = .ok (.iinc 3 1, 3) := by decide +kernel
theorem dX0_handOver_61 : decode cX0_handOver 61 = .ok (.goto (-57), 3) := by decide +kernel
theorem dX0_handOver_64 : decode cX0_handOver 64 = .ok (.aload_n 2, 1) := by decide +kernel
theorem dX0_handOver_65 : decode cX0_handOver 65 = .ok (.ifnonnull 11, 3) := by decide +kernel
theorem dX0_handOver_68 : decode cX0_handOver 68 = .ok (.aload_n 0, 1) := by decide +kernel
theorem dX0_handOver_69 : decode cX0_handOver 69 = .ok (.getfield 30, 3) := by decide +kernel
theorem dX0_handOver_72 : decode cX0_handOver 72 = .ok (.iload_n 1, 1) := by decide +kernel
theorem dX0_handOver_73 : decode cX0_handOver 73 = .ok (.iconst (-1), 1) := by decide +kernel
theorem dX0_handOver_74 : decode cX0_handOver 74 = .ok (.iastore, 1) := by decide +kernel
theorem dX0_handOver_75 : decode cX0_handOver 75 = .ok (.return_, 1) := by decide +kernel
theorem dX0_handOver_76 : decode cX0_handOver 76 = .ok (.aload_n 0, 1) := by decide +kernel
theorem dX0_handOver_77 : decode cX0_handOver 77 = .ok (.getfield 30, 3) := by decide +kernel
theorem dX0_handOver_80 : decode cX0_handOver 80 = .ok (.iload_n 1, 1) := by decide +kernel
theorem dX0_handOver_81 : decode cX0_handOver 81 = .ok (.aload_n 2, 1) := by decide +kernel
theorem dX0_handOver_82 : decode cX0_handOver 82 = .ok (.getfield 108, 3) := by decide +kernel
theorem dX0_handOver_85 : decode cX0_handOver 85 = .ok (.iastore, 1) := by decide +kernel
theorem dX0_handOver_86 : decode cX0_handOver 86 = .ok (.aload_n 2, 1) := by decide +kernel
theorem dX0_handOver_87 : decode cX0_handOver 87 = .ok (.invokevirtual 118, 3) := by decide +kernel
theorem dX0_handOver_90 : decode cX0_handOver 90 = .ok (.aload_n 0, 1) := by decide +kernel
theorem dX0_handOver_91 : decode cX0_handOver 91 = .ok (.getfield 40, 3) := by decide +kernel
theorem dX0_handOver_94 : decode cX0_handOver 94 = .ok (.aload_n 2, 1) := by decide +kernel
theorem dX0_handOver_95 : decode cX0_handOver 95 = .ok (.getfield 204, 3) := by decide +kernel
theorem dX0_handOver_98 : decode cX0_handOver 98 = .ok (.iconst 4, 1) := by decide +kernel
theorem dX0_handOver_99 : decode cX0_handOver 99 = .ok (.if_icmp .ne 8, 3) := by decide +kernel
theorem dX0_handOver_102 : decode cX0_handOver 102 = .ok (.bipush 11, 2) := by decide +kernel
theorem dX0_handOver_104 : decode cX0_handOver 104 = .ok (.goto 5, 3) := by decide +kernel
theorem dX0_handOver_107 : decode cX0_handOver 107 = .ok (.bipush 10, 2) := by decide +kernel
theorem dX0_handOver_109 : decode cX0_handOver 109 = .ok (.dup2, 1) := by decide +kernel
theorem dX0_handOver_110 : decode cX0_handOver 110 = .ok (.iaload, 1) := by decide +kernel
theorem dX0_handOver_111 : decode cX0_handOver 111 = .ok (.iconst 1, 1) := by decide +kernel
theorem dX0_handOver_112 : decode cX0_handOver 112 = .ok (.iadd, 1) := by decide +kernel
theorem dX0_handOver_113 : decode cX0_handOver 113 = .ok (.iastore, 1) := by decide +kernel
theorem dX0_handOver_114 : decode cX0_handOver 114 = .ok (.return_, 1) := by decide +kernel
theorem dX0_act_0 : decode cX0_act 0 = .ok (.aload_n 1, 1) := by decide +kernel
theorem dX0_act_1 : decode cX0_act 1 = .ok (.getfield 216, 3) := by decide +kernel
theorem dX0_act_4 : decode cX0_act 4 = .ok (.ifCond .le 16, 3) := by decide +kernel
theorem dX0_act_7 : decode cX0_act 7 = .ok (.aload_n 1, 1) := by decide +kernel
theorem dX0_act_8 : decode cX0_act 8 = .ok (.dup, 1) := by decide +kernel
theorem dX0_act_9 : decode cX0_act 9 = .ok (.getfield 216, 3) := by decide +kernel
theorem dX0_act_12 : decode cX0_act 12 = .ok (.iconst 1, 1) := by decide +kernel
theorem dX0_act_13 : decode cX0_act 13 = .ok (.isub, 1) := by decide +kernel
theorem dX0_act_14 : decode cX0_act 14 = .ok (.putfield 216, 3) := by decide +kernel
theorem dX0_act_17 : decode cX0_act 17 = .ok (.bipush (-2), 2) := by decide +kernel
theorem dX0_act_19 : decode cX0_act 19 = .ok (.ireturn, 1) := by decide +kernel
theorem dX0_act_20 : decode cX0_act 20 = .ok (.aload_n 0, 1) := by decide +kernel
theorem dX0_act_21 : decode cX0_act 21 = .ok (.aload_n 1, 1) := by decide +kernel
theorem dX0_act_22 : decode cX0_act 22 = .ok (.getfield 219, 3) := by decide +kernel
theorem dX0_act_25 : decode cX0_act 25 = .ok (.invokevirtual 222, 3) := by decide +kernel
theorem dX0_act_28 : decode cX0_act 28 = .ok (.astore_n 2, 1) := by decide +kernel
theorem dX0_act_29 : decode cX0_act 29 = .ok (.aload_n 0, 1) := by decide +kernel
theorem dX0_act_30 : decode cX0_act 30 = .ok (.aload_n 2, 1) := by decide +kernel
theorem dX0_act_31 : decode cX0_act 31 = .ok (.aload_n 1, 1) := by decide +kernel
theorem dX0_act_32 : decode cX0_act 32 = .ok (.getfield 226, 3) := by decide +kernel
theorem dX0_act_35 : decode cX0_act 35 = .ok (.invokevirtual 229, 3) := by decide +kernel
theorem dX0_act_38 : decode cX0_act 38 = .ok (.istore_n 3, 1) := by decide +kernel
theorem dX0_act_39 : decode cX0_act 39 = .ok (.aload_n 2, 1) := by decide +kernel
theorem dX0_act_40 : decode cX0_act 40 = .ok (.ifnull 8, 3) := by decide +kernel
theorem dX0_act_43 : decode cX0_act 43 = .ok (.iload_n 3, 1) := by decide +kernel
theorem dX0_act_44 : decode cX0_act 44 = .ok (.iconst (-1), 1) := by decide +kernel
theorem dX0_act_45 : decode cX0_act 45 = .ok (.if_icmp .eq 5, 3) := by decide +kernel
theorem dX0_act_48 : decode cX0_act 48 = .ok (.iload_n 3, 1) := by decide +kernel
theorem dX0_act_49 : decode cX0_act 49 = .ok (.ireturn, 1) := by decide +kernel
theorem dX0_act_50 : decode cX0_act 50 = .ok (.aload_n 2, 1) := by decide +kernel
theorem dX0_act_51 : decode cX0_act 51 = .ok (.aload_n 1, 1) := by decide +kernel
theorem dX0_act_52 : decode cX0_act 52 = .ok (.getfield 226, 3) := by decide +kernel
theorem dX0_act_55 : decode cX0_act 55 = .ok (.iconst 1, 1) := by decide +kernel
theorem dX0_act_56 : decode cX0_act 56 = .ok (.iadd, 1) := by decide +kernel
theorem dX0_act_57 : decode cX0_act 57 = .ok (.invokevirtual 233, 3) := by decide +kernel
theorem dX0_act_60 : decode cX0_act 60 = .ok (.istore 4, 2) := by decide +kernel
theorem dX0_act_62 : decode cX0_act 62 = .ok (.aload_n 2, 1) := by decide +kernel
theorem dX0_act_63 : decode cX0_act 63 = .ok (.aload_n 1, 1) := by decide +kernel
theorem dX0_act_64 : decode cX0_act 64 = .ok (.getfield 226, 3) := by decide +kernel
theorem dX0_act_67 : decode cX0_act 67 = .ok (.invokevirtual 233, 3) := by decide +kernel
theorem dX0_act_70 : decode cX0_act 70 = .ok (.tableswitch 179 1 11 #[58, 71, 82, 93, 104, 114, 125, 136, 147, 158, 169], 58) := by decide +kernel
theorem dX0_act_128 : decode cX0_act 128 = .ok (.aload_n 1, 1) := by decide +kernel
theorem dX0_act_129 : decode cX0_act 129 = .ok (.iconst 0, 1) := by decide +kernel
theorem dX0_act_130 : decode cX0_act 130 = .ok (.iload 4, 2) := by decide +kernel
theorem dX0_act_132 : decode cX0_act 132 = .ok (.invokestatic 236, 3) := by decide +kernel
theorem dX0_act_135 : decode cX0_act 135 = .ok (.putfield 216, 3) := by decide +kernel
theorem dX0_act_138 : decode cX0_act 138 = .ok (.goto 119, 3) := by decide +kernel
theorem dX0_act_141 : decode cX0_act 141 = .ok (.aload_n 0, 1) := by decide +kernel
theorem dX0_act_142 : decode cX0_act 142 = .ok (.aload_n 1, 1) := by decide +kernel
theorem dX0_act_143 : decode cX0_act 143 = .ok (.iload 4, 2) := by decide +kernel
theorem dX0_act_145 : decode cX0_act 145 = .ok (.invokevirtual 239, 3) := by decide +kernel
theorem dX0_act_148 : decode cX0_act 148 = .ok (.istore_n 3, 1) := by decide +kernel
theorem dX0_act_149 : decode cX0_act 149 = .ok (.goto 108, 3) := by decide +kernel
theorem dX0_act_152 : decode cX0_act 152 = .ok (.aload_n 0, 1) := by decide +kernel
theorem dX0_act_153 : decode cX0_act 153 = .ok (.aload_n 1, 1) := by decide +kernel
theorem dX0_act_154 : decode cX0_act 154 = .ok (.iload 4, 2) := by decide +kernel
theorem dX0_act_156 : decode cX0_act 156 = .ok (.invokevirtual 243, 3) := by decide +kernel
theorem dX0_act_159 : decode cX0_act 159 = .ok (.istore_n 3, 1) := by decide +kernel
theorem dX0_act_160 : decode cX0_act 160 = .ok (.goto 97, 3) := by decide +kernel
theorem dX0_act_163 : decode cX0_act 163 = .ok (.aload_n 0, 1) := by decide +kernel
theorem dX0_act_164 : decode cX0_act 164 = .ok (.aload_n 1, 1) := by decide +kernel
theorem dX0_act_165 : decode cX0_act 165 = .ok (.iload 4, 2) := by decide +kernel
theorem dX0_act_167 : decode cX0_act 167 = .ok (.invokevirtual 246, 3) := by decide +kernel
theorem dX0_act_170 : decode cX0_act 170 = .ok (.istore_n 3, 1) := by decide +kernel
theorem dX0_act_171 : decode cX0_act 171 = .ok (.goto 86, 3) := by decide +kernel
theorem dX0_act_174 : decode cX0_act 174 = .ok (.aload_n 0, 1) := by decide +kernel
theorem dX0_act_175 : decode cX0_act 175 = .ok (.iload 4, 2) := by decide +kernel
theorem dX0_act_177 : decode cX0_act 177 = .ok (.invokevirtual 249, 3) := by decide +kernel
theorem dX0_act_180 : decode cX0_act 180 = .ok (.istore_n 3, 1) := by decide +kernel
theorem dX0_act_181 : decode cX0_act 181 = .ok (.goto 76, 3) := by decide +kernel
theorem dX0_act_184 : decode cX0_act 184 = .ok (.aload_n 0, 1) := by decide +kernel
theorem dX0_act_185 : decode cX0_act 185 = .ok (.aload_n 1, 1) := by decide +kernel
theorem dX0_act_186 : decode cX0_act 186 = .ok (.iload 4, 2) := by decide +kernel
theorem dX0_act_188 : decode cX0_act 188 = .ok (.invokevirtual 252, 3) := by decide +kernel
theorem dX0_act_191 : decode cX0_act 191 = .ok (.istore_n 3, 1) := by decide +kernel
theorem dX0_act_192 : decode cX0_act 192 = .ok (.goto 65, 3) := by decide +kernel
theorem dX0_act_195 : decode cX0_act 195 = .ok (.aload_n 0, 1) := by decide +kernel
theorem dX0_act_196 : decode cX0_act 196 = .ok (.aload_n 1, 1) := by decide +kernel
theorem dX0_act_197 : decode cX0_act 197 = .ok (.iload 4, 2) := by decide +kernel
theorem dX0_act_199 : decode cX0_act 199 = .ok (.invokevirtual 255, 3) := by decide +kernel
theorem dX0_act_202 : decode cX0_act 202 = .ok (.istore_n 3, 1) := by decide +kernel
theorem dX0_act_203 : decode cX0_act 203 = .ok (.goto 54, 3) := by decide +kernel
theorem dX0_act_206 : decode cX0_act 206 = .ok (.aload_n 0, 1) := by decide +kernel
theorem dX0_act_207 : decode cX0_act 207 = .ok (.aload_n 1, 1) := by decide +kernel
theorem dX0_act_208 : decode cX0_act 208 = .ok (.iload 4, 2) := by decide +kernel
theorem dX0_act_210 : decode cX0_act 210 = .ok (.invokevirtual 258, 3) := by decide +kernel
theorem dX0_act_213 : decode cX0_act 213 = .ok (.istore_n 3, 1) := by decide +kernel
theorem dX0_act_214 : decode cX0_act 214 = .ok (.goto 43, 3) := by decide +kernel
theorem dX0_act_217 : decode cX0_act 217 = .ok (.aload_n 0, 1) := by decide +kernel
theorem dX0_act_218 : decode cX0_act 218 = .ok (.aload_n 1, 1) := by decide +kernel
theorem dX0_act_219 : decode cX0_act 219 = .ok (.iload 4, 2) := by decide +kernel
theorem dX0_act_221 : decode cX0_act 221 = .ok (.invokevirtual 261, 3) := by decide +kernel
theorem dX0_act_224 : decode cX0_act 224 = .ok (.istore_n 3, 1) := by decide +kernel
theorem dX0_act_225 : decode cX0_act 225 = .ok (.goto 32, 3) := by decide +kernel
theorem dX0_act_228 : decode cX0_act 228 = .ok (.aload_n 0, 1) := by decide +kernel
theorem dX0_act_229 : decode cX0_act 229 = .ok (.aload_n 1, 1) := by decide +kernel
theorem dX0_act_230 : decode cX0_act 230 = .ok (.iload 4, 2) := by decide +kernel
theorem dX0_act_232 : decode cX0_act 232 = .ok (.invokevirtual 264, 3) := by decide +kernel
theorem dX0_act_235 : decode cX0_act 235 = .ok (.istore_n 3, 1) := by decide +kernel
theorem dX0_act_236 : decode cX0_act 236 = .ok (.goto 21, 3) := by decide +kernel
theorem dX0_act_239 : decode cX0_act 239 = .ok (.aload_n 0, 1) := by decide +kernel
theorem dX0_act_240 : decode cX0_act 240 = .ok (.iload 4, 2) := by decide +kernel
theorem dX0_act_242 : decode cX0_act 242 = .ok (.invokevirtual 267, 3) := by decide +kernel
theorem dX0_act_245 : decode cX0_act 245 = .ok (.istore_n 3, 1) := by decide +kernel
theorem dX0_act_246 : decode cX0_act 246 = .ok (.goto 11, 3) := by decide +kernel
theorem dX0_act_249 : decode cX0_act 249 = .ok (.aload_n 0, 1) := by decide +kernel
theorem dX0_act_250 : decode cX0_act 250 = .ok (.aload_n 1, 1) := by decide +kernel
theorem dX0_act_251 : decode cX0_act 251 = .ok (.iload 4, 2) := by decide +kernel
theorem dX0_act_253 : decode cX0_act 253 = .ok (.invokevirtual 270, 3) := by decide +kernel
theorem dX0_act_256 : decode cX0_act 256 = .ok (.istore_n 3, 1) := by decide +kernel
theorem dX0_act_257 : decode cX0_act 257 = .ok (.aload_n 1, 1) := by decide +kernel
theorem dX0_act_258 : decode cX0_act 258 = .ok (.dup, 1) := by decide +kernel
theorem dX0_act_259 : decode cX0_act 259 = .ok (.getfield 226, 3) := by decide +kernel
theorem dX0_act_262 : decode cX0_act 262 = .ok (.iload_n 3, 1) := by decide +kernel
theorem dX0_act_263 : decode cX0_act 263 = .ok (.ifCond .ge 7, 3) := by decide +kernel
theorem dX0_act_266 : decode cX0_act 266 = .ok (.iconst 2, 1) := by decide +kernel
theorem dX0_act_267 : decode cX0_act 267 = .ok (.goto 4, 3) := by decide +kernel
theorem dX0_act_270 : decode cX0_act 270 = .ok (.iconst 0, 1) := by decide +kernel
theorem dX0_act_271 : decode cX0_act 271 = .ok (.iadd, 1) := by decide +kernel
theorem dX0_act_272 : decode cX0_act 272 = .ok (.putfield 226, 3) := by decide +kernel
theorem dX0_act_275 : decode cX0_act 275 = .ok (.iload_n 3, 1) := by decide +kernel
theorem dX0_act_276 : decode cX0_act 276 = .ok (.ireturn, 1) := by decide +kernel
theorem dX0_readable_0 : decode cX0_readable 0 = .ok (.aload_n 1, 1) := by decide +kernel
theorem dX0_readable_1 : decode cX0_readable 1 = .ok (.ifnull 10, 3) := by decide +kernel
theorem dX0_readable_4 : decode cX0_readable 4 = .ok (.aload_n 1, 1) := by decide +kernel
theorem dX0_readable_5 : decode cX0_readable 5 = .ok (.getfield 69, 3) := by decide +kernel
theorem dX0_readable_8 : decode cX0_readable 8 = .ok (.ifCond .ge 5, 3) := by decide +kernel
theorem dX0_readable_11 : decode cX0_readable 11 = .ok (.iconst 1, 1) := by decide +kernel
theorem dX0_readable_12 : decode cX0_readable 12 = .ok (.ireturn, 1) := by decide +kernel
theorem dX0_readable_13 : decode cX0_readable 13 = .ok (.iload_n 2, 1) := by decide +kernel
theorem dX0_readable_14 : decode cX0_readable 14 = .ok (.aload_n 1, 1) := by decide +kernel
theorem dX0_readable_15 : decode cX0_readable 15 = .ok (.getfield 69, 3) := by decide +kernel
theorem dX0_readable_18 : decode cX0_readable 18 = .ok (.if_icmp .lt 5, 3) := by decide +kernel
theorem dX0_readable_21 : decode cX0_readable 21 = .ok (.iconst 2, 1) := by decide +kernel
theorem dX0_readable_22 : decode cX0_readable 22 = .ok (.ireturn, 1) := by decide +kernel
theorem dX0_readable_23 : decode cX0_readable 23 = .ok (.aload_n 1, 1) := by decide +kernel
theorem dX0_readable_24 : decode cX0_readable 24 = .ok (.iload_n 2, 1) := by decide +kernel
theorem dX0_readable_25 : decode cX0_readable 25 = .ok (.invokevirtual 233, 3) := by decide +kernel
theorem dX0_readable_28 : decode cX0_readable 28 = .ok (.istore_n 3, 1) := by decide +kernel
theorem dX0_readable_29 : decode cX0_readable 29 = .ok (.iload_n 3, 1) := by decide +kernel
theorem dX0_readable_30 : decode cX0_readable 30 = .ok (.ifCond .lt 9, 3) := by decide +kernel
theorem dX0_readable_33 : decode cX0_readable 33 = .ok (.iload_n 3, 1) := by decide +kernel
theorem dX0_readable_34 : decode cX0_readable 34 = .ok (.bipush 12, 2) := by decide +kernel
theorem dX0_readable_36 : decode cX0_readable 36 = .ok (.if_icmp .le 6, 3) := by decide +kernel
theorem dX0_readable_39 : decode cX0_readable 39 = .ok (.bipush 10, 2) := by decide +kernel
theorem dX0_readable_41 : decode cX0_readable 41 = .ok (.ireturn, 1) := by decide +kernel
theorem dX0_readable_42 : decode cX0_readable 42 = .ok (.iload_n 3, 1) := by decide +kernel
theorem dX0_readable_43 : decode cX0_readable 43 = .ok (.ifCond .ne 5, 3) := by decide +kernel
theorem dX0_readable_46 : decode cX0_readable 46 = .ok (.iconst 0, 1) := by decide +kernel
theorem dX0_readable_47 : decode cX0_readable 47 = .ok (.ireturn, 1) := by decide +kernel
theorem dX0_readable_48 : decode cX0_readable 48 = .ok (.iload_n 2, 1) := by decide +kernel
theorem dX0_readable_49 : decode cX0_readable 49 = .ok (.iconst 1, 1) := by decide +kernel
theorem dX0_readable_50 : decode cX0_readable 50 = .ok (.iadd, 1) := by decide +kernel
theorem dX0_readable_51 : decode cX0_readable 51 = .ok (.aload_n 1, 1) := by decide +kernel
theorem dX0_readable_52 : decode cX0_readable 52 = .ok (.getfield 69, 3) := by decide +kernel
theorem dX0_readable_55 : decode cX0_readable 55 = .ok (.if_icmp .ge 7, 3) := by decide +kernel
theorem dX0_readable_58 : decode cX0_readable 58 = .ok (.iconst (-1), 1) := by decide +kernel
theorem dX0_readable_59 : decode cX0_readable 59 = .ok (.goto 4, 3) := by decide +kernel
theorem dX0_readable_62 : decode cX0_readable 62 = .ok (.iconst 2, 1) := by decide +kernel
theorem dX0_readable_63 : decode cX0_readable 63 = .ok (.ireturn, 1) := by decide +kernel
theorem dX0_take_0 : decode cX0_take 0 = .ok (.aload_n 0, 1) := by decide +kernel
theorem dX0_take_1 : decode cX0_take 1 = .ok (.iload_n 2, 1) := by decide +kernel
theorem dX0_take_2 : decode cX0_take 2 = .ok (.invokevirtual 273, 3) := by decide +kernel
theorem dX0_take_5 : decode cX0_take 5 = .ok (.istore_n 3, 1) := by decide +kernel
theorem dX0_take_6 : decode cX0_take 6 = .ok (.iload_n 3, 1) := by decide +kernel
theorem dX0_take_7 : decode cX0_take 7 = .ok (.bipush (-2), 2) := by decide +kernel
theorem dX0_take_9 : decode cX0_take 9 = .ok (.if_icmp .ne 6, 3) := by decide +kernel
theorem dX0_take_12 : decode cX0_take 12 = .ok (.bipush 7, 2) := by decide +kernel
theorem dX0_take_14 : decode cX0_take 14 = .ok (.ireturn, 1) := by decide +kernel
theorem dX0_take_15 : decode cX0_take 15 = .ok (.iload_n 3, 1) := by decide +kernel
theorem dX0_take_16 : decode cX0_take 16 = .ok (.aload_n 1, 1) := by decide +kernel
theorem dX0_take_17 : decode cX0_take 17 = .ok (.getfield 108, 3) := by decide +kernel
theorem dX0_take_20 : decode cX0_take 20 = .ok (.if_icmp .ne 6, 3) := by decide +kernel
theorem dX0_take_23 : decode cX0_take 23 = .ok (.bipush 11, 2) := by decide +kernel
theorem dX0_take_25 : decode cX0_take 25 = .ok (.ireturn, 1) := by decide +kernel
theorem dX0_take_26 : decode cX0_take 26 = .ok (.iload_n 3, 1) := by decide +kernel
theorem dX0_take_27 : decode cX0_take 27 = .ok (.iconst (-1), 1) := by decide +kernel
theorem dX0_take_28 : decode cX0_take 28 = .ok (.if_icmp .ne 15, 3) := by decide +kernel
theorem dX0_take_31 : decode cX0_take 31 = .ok (.aload_n 0, 1) := by decide +kernel
theorem dX0_take_32 : decode cX0_take 32 = .ok (.getfield 30, 3) := by decide +kernel
theorem dX0_take_35 : decode cX0_take 35 = .ok (.iload_n 2, 1) := by decide +kernel
theorem dX0_take_36 : decode cX0_take 36 = .ok (.aload_n 1, 1) := by decide +kernel
theorem dX0_take_37 : decode cX0_take 37 = .ok (.getfield 108, 3) := by decide +kernel
theorem dX0_take_40 : decode cX0_take 40 = .ok (.iastore, 1) := by decide +kernel
theorem dX0_take_41 : decode cX0_take 41 = .ok (.iconst (-1), 1) := by decide +kernel
theorem dX0_take_42 : decode cX0_take 42 = .ok (.ireturn, 1) := by decide +kernel
theorem dX0_take_43 : decode cX0_take 43 = .ok (.aload_n 0, 1) := by decide +kernel
theorem dX0_take_44 : decode cX0_take 44 = .ok (.iload_n 3, 1) := by decide +kernel
theorem dX0_take_45 : decode cX0_take 45 = .ok (.aload_n 1, 1) := by decide +kernel
theorem dX0_take_46 : decode cX0_take 46 = .ok (.invokevirtual 276, 3) := by decide +kernel
theorem dX0_take_49 : decode cX0_take 49 = .ok (.ifCond .eq 12, 3) := by decide +kernel
theorem dX0_take_52 : decode cX0_take 52 = .ok (.aload_n 0, 1) := by decide +kernel
theorem dX0_take_53 : decode cX0_take 53 = .ok (.aload_n 1, 1) := by decide +kernel
theorem dX0_take_54 : decode cX0_take 54 = .ok (.iload_n 3, 1) := by decide +kernel
theorem dX0_take_55 : decode cX0_take 55 = .ok (.invokevirtual 280, 3) := by decide +kernel
theorem dX0_take_58 : decode cX0_take 58 = .ok (.bipush 12, 2) := by decide +kernel
theorem dX0_take_60 : decode cX0_take 60 = .ok (.ireturn, 1) := by decide +kernel
theorem dX0_take_61 : decode cX0_take 61 = .ok (.aload_n 0, 1) := by decide +kernel
theorem dX0_take_62 : decode cX0_take 62 = .ok (.aload_n 1, 1) := by decide +kernel
theorem dX0_take_63 : decode cX0_take 63 = .ok (.iconst 1, 1) := by decide +kernel
theorem dX0_take_64 : decode cX0_take 64 = .ok (.invokevirtual 283, 3) := by decide +kernel
theorem dX0_take_67 : decode cX0_take 67 = .ok (.aload_n 1, 1) := by decide +kernel
theorem dX0_take_68 : decode cX0_take 68 = .ok (.iload_n 2, 1) := by decide +kernel
theorem dX0_take_69 : decode cX0_take 69 = .ok (.putfield 115, 3) := by decide +kernel
theorem dX0_take_72 : decode cX0_take 72 = .ok (.bipush (-2), 2) := by decide +kernel
theorem dX0_take_74 : decode cX0_take 74 = .ok (.ireturn, 1) := by decide +kernel
theorem dX0_leadsTo_0 : decode cX0_leadsTo 0 = .ok (.aload_n 0, 1) := by decide +kernel
theorem dX0_leadsTo_1 : decode cX0_leadsTo 1 = .ok (.iload_n 1, 1) := by decide +kernel
theorem dX0_leadsTo_2 : decode cX0_leadsTo 2 = .ok (.invokevirtual 89, 3) := by decide +kernel
theorem dX0_leadsTo_5 : decode cX0_leadsTo 5 = .ok (.astore_n 3, 1) := by decide +kernel
theorem dX0_leadsTo_6 : decode cX0_leadsTo 6 = .ok (.iconst 0, 1) := by decide +kernel
theorem dX0_leadsTo_7 : decode cX0_leadsTo 7 = .ok (.istore 4, 2) := by decide +kernel
theorem dX0_leadsTo_9 : decode cX0_leadsTo 9 = .ok (.iload 4, 2) := by decide +kernel
theorem dX0_leadsTo_11 : decode cX0_leadsTo 11 = .ok (.sipush 200, 3) := by decide +kernel
theorem dX0_leadsTo_14 : decode cX0_leadsTo 14 = .ok (.if_icmp .ge 24, 3) := by decide +kernel
theorem dX0_leadsTo_17 : decode cX0_leadsTo 17 = .ok (.aload_n 3, 1) := by decide +kernel
theorem dX0_leadsTo_18 : decode cX0_leadsTo 18 = .ok (.ifnull 20, 3) := by decide +kernel
theorem dX0_leadsTo_21 : decode cX0_leadsTo 21 = .ok (.aload_n 3, 1) := by decide +kernel
theorem dX0_leadsTo_22 : decode cX0_leadsTo 22 = .ok (.aload_n 2, 1) := by decide +kernel
theorem dX0_leadsTo_23 : decode cX0_leadsTo 23 = .ok (.if_acmp .eq 15, 3) := by decide +kernel
theorem dX0_leadsTo_26 : decode cX0_leadsTo 26 = .ok (.aload_n 0, 1) := by decide +kernel
theorem dX0_leadsTo_27 : decode cX0_leadsTo 27 = .ok (.aload_n 3, 1) := by decide +kernel
theorem dX0_leadsTo_28 : decode cX0_leadsTo 28 = .ok (.invokevirtual 186, 3) := by decide +kernel
theorem dX0_leadsTo_31 : decode cX0_leadsTo 31 = .ok (.astore_n 3, 1) := by decide +kernel
theorem dX0_leadsTo_32 : decode cX0_leadsTo 32 = .ok (.iinc 4 1, 3) := by decide +kernel
theorem dX0_leadsTo_35 : decode cX0_leadsTo 35 = .ok (.goto (-26), 3) := by decide +kernel
theorem dX0_leadsTo_38 : decode cX0_leadsTo 38 = .ok (.aload_n 3, 1) := by decide +kernel
theorem dX0_leadsTo_39 : decode cX0_leadsTo 39 = .ok (.aload_n 2, 1) := by decide +kernel
theorem dX0_leadsTo_40 : decode cX0_leadsTo 40 = .ok (.if_acmp .ne 7, 3) := by decide +kernel
theorem dX0_leadsTo_43 : decode cX0_leadsTo 43 = .ok (.iconst 1, 1) := by decide +kernel
theorem dX0_leadsTo_44 : decode cX0_leadsTo 44 = .ok (.goto 4, 3) := by decide +kernel
theorem dX0_leadsTo_47 : decode cX0_leadsTo 47 = .ok (.iconst 0, 1) := by decide +kernel
theorem dX0_leadsTo_48 : decode cX0_leadsTo 48 = .ok (.ireturn, 1) := by decide +kernel
theorem dX0_keepRing_0 : decode cX0_keepRing 0 = .ok (.aload_n 0, 1) := by decide +kernel
theorem dX0_keepRing_1 : decode cX0_keepRing 1 = .ok (.dup, 1) := by decide +kernel
theorem dX0_keepRing_2 : decode cX0_keepRing 2 = .ok (.getfield 56, 3) := by decide +kernel
theorem dX0_keepRing_5 : decode cX0_keepRing 5 = .ok (.iconst 1, 1) := by decide +kernel
theorem dX0_keepRing_6 : decode cX0_keepRing 6 = .ok (.iadd, 1) := by decide +kernel
theorem dX0_keepRing_7 : decode cX0_keepRing 7 = .ok (.putfield 56, 3) := by decide +kernel
theorem dX0_keepRing_10 : decode cX0_keepRing 10 = .ok (.aload_n 0, 1) := by decide +kernel
theorem dX0_keepRing_11 : decode cX0_keepRing 11 = .ok (.getfield 37, 3) := by decide +kernel
theorem dX0_keepRing_14 : decode cX0_keepRing 14 = .ok (.iconst 0, 1) := by decide +kernel
theorem dX0_keepRing_15 : decode cX0_keepRing 15 = .ok (.aload_n 1, 1) := by decide +kernel
theorem dX0_keepRing_16 : decode cX0_keepRing 16 = .ok (.getfield 108, 3) := by decide +kernel
theorem dX0_keepRing_19 : decode cX0_keepRing 19 = .ok (.iastore, 1) := by decide +kernel
theorem dX0_keepRing_20 : decode cX0_keepRing 20 = .ok (.aload_n 0, 1) := by decide +kernel
theorem dX0_keepRing_21 : decode cX0_keepRing 21 = .ok (.iconst 1, 1) := by decide +kernel
theorem dX0_keepRing_22 : decode cX0_keepRing 22 = .ok (.putfield 53, 3) := by decide +kernel
theorem dX0_keepRing_25 : decode cX0_keepRing 25 = .ok (.aload_n 0, 1) := by decide +kernel
theorem dX0_keepRing_26 : decode cX0_keepRing 26 = .ok (.iload_n 2, 1) := by decide +kernel
theorem dX0_keepRing_27 : decode cX0_keepRing 27 = .ok (.invokevirtual 89, 3) := by decide +kernel
theorem dX0_keepRing_30 : decode cX0_keepRing 30 = .ok (.astore_n 3, 1) := by decide +kernel
theorem dX0_keepRing_31 : decode cX0_keepRing 31 = .ok (.iconst 1, 1) := by decide +kernel
theorem dX0_keepRing_32 : decode cX0_keepRing 32 = .ok (.istore 4, 2) := by decide +kernel
theorem dX0_keepRing_34 : decode cX0_keepRing 34 = .ok (.iload 4, 2) := by decide +kernel
theorem dX0_keepRing_36 : decode cX0_keepRing 36 = .ok (.sipush 200, 3) := by decide +kernel
theorem dX0_keepRing_39 : decode cX0_keepRing 39 = .ok (.if_icmp .ge 43, 3) := by decide +kernel
theorem dX0_keepRing_42 : decode cX0_keepRing 42 = .ok (.aload_n 3, 1) := by decide +kernel
theorem dX0_keepRing_43 : decode cX0_keepRing 43 = .ok (.ifnull 39, 3) := by decide +kernel
theorem dX0_keepRing_46 : decode cX0_keepRing 46 = .ok (.aload_n 3, 1) := by decide +kernel
theorem dX0_keepRing_47 : decode cX0_keepRing 47 = .ok (.aload_n 1, 1) := by decide +kernel
theorem dX0_keepRing_48 : decode cX0_keepRing 48 = .ok (.if_acmp .eq 34, 3) := by decide +kernel
theorem dX0_keepRing_51 : decode cX0_keepRing 51 = .ok (.aload_n 0, 1) := by decide +kernel
theorem dX0_keepRing_52 : decode cX0_keepRing 52 = .ok (.getfield 37, 3) := by decide +kernel
theorem dX0_keepRing_55 : decode cX0_keepRing 55 = .ok (.iload 4, 2) := by decide +kernel
theorem dX0_keepRing_57 : decode cX0_keepRing 57 = .ok (.aload_n 3, 1) := by decide +kernel
theorem dX0_keepRing_58 : decode cX0_keepRing 58 = .ok (.getfield 108, 3) := by decide +kernel
theorem dX0_keepRing_61 : decode cX0_keepRing 61 = .ok (.iastore, 1) := by decide +kernel
theorem dX0_keepRing_62 : decode cX0_keepRing 62 = .ok (.aload_n 0, 1) := by decide +kernel
theorem dX0_keepRing_63 : decode cX0_keepRing 63 = .ok (.iload 4, 2) := by decide +kernel
theorem dX0_keepRing_65 : decode cX0_keepRing 65 = .ok (.iconst 1, 1) := by decide +kernel
theorem dX0_keepRing_66 : decode cX0_keepRing 66 = .ok (.iadd, 1) := by decide +kernel
theorem dX0_keepRing_67 : decode cX0_keepRing 67 = .ok (.putfield 53, 3) := by decide +kernel
theorem dX0_keepRing_70 : decode cX0_keepRing 70 = .ok (.aload_n 0, 1) := by decide +kernel
theorem dX0_keepRing_71 : decode cX0_keepRing 71 = .ok (.aload_n 3, 1) := by decide +kernel
theorem dX0_keepRing_72 : decode cX0_keepRing 72 = .ok (.invokevirtual 186, 3) := by decide +kernel
theorem dX0_keepRing_75 : decode cX0_keepRing 75 = .ok (.astore_n 3, 1) := by decide +kernel
theorem dX0_keepRing_76 : decode cX0_keepRing 76 = .ok (.iinc 4 1, 3) := by decide +kernel
theorem dX0_keepRing_79 : decode cX0_keepRing 79 = .ok (.goto (-45), 3) := by decide +kernel
theorem dX0_keepRing_82 : decode cX0_keepRing 82 = .ok (.return_, 1) := by decide +kernel
theorem dX0_give_0 : decode cX0_give 0 = .ok (.aload_n 0, 1) := by decide +kernel
theorem dX0_give_1 : decode cX0_give 1 = .ok (.iload_n 2, 1) := by decide +kernel
theorem dX0_give_2 : decode cX0_give 2 = .ok (.invokevirtual 273, 3) := by decide +kernel
theorem dX0_give_5 : decode cX0_give 5 = .ok (.istore_n 3, 1) := by decide +kernel
theorem dX0_give_6 : decode cX0_give 6 = .ok (.iload_n 3, 1) := by decide +kernel
theorem dX0_give_7 : decode cX0_give 7 = .ok (.bipush (-2), 2) := by decide +kernel
theorem dX0_give_9 : decode cX0_give 9 = .ok (.if_icmp .ne 6, 3) := by decide +kernel
theorem dX0_give_12 : decode cX0_give 12 = .ok (.bipush 7, 2) := by decide +kernel
theorem dX0_give_14 : decode cX0_give 14 = .ok (.ireturn, 1) := by decide +kernel
theorem dX0_give_15 : decode cX0_give 15 = .ok (.iload_n 3, 1) := by decide +kernel
theorem dX0_give_16 : decode cX0_give 16 = .ok (.aload_n 1, 1) := by decide +kernel
theorem dX0_give_17 : decode cX0_give 17 = .ok (.getfield 108, 3) := by decide +kernel
theorem dX0_give_20 : decode cX0_give 20 = .ok (.if_icmp .eq 6, 3) := by decide +kernel
theorem dX0_give_23 : decode cX0_give 23 = .ok (.bipush 11, 2) := by decide +kernel
theorem dX0_give_25 : decode cX0_give 25 = .ok (.ireturn, 1) := by decide +kernel
theorem dX0_give_26 : decode cX0_give 26 = .ok (.aload_n 0, 1) := by decide +kernel
theorem dX0_give_27 : decode cX0_give 27 = .ok (.invokevirtual 159, 3) := by decide +kernel
theorem dX0_give_30 : decode cX0_give 30 = .ok (.aload_n 0, 1) := by decide +kernel
theorem dX0_give_31 : decode cX0_give 31 = .ok (.iload_n 2, 1) := by decide +kernel
theorem dX0_give_32 : decode cX0_give 32 = .ok (.invokevirtual 213, 3) := by decide +kernel
theorem dX0_give_35 : decode cX0_give 35 = .ok (.iconst (-1), 1) := by decide +kernel
theorem dX0_give_36 : decode cX0_give 36 = .ok (.ireturn, 1) := by decide +kernel
theorem dX0_waitForBell_0 : decode cX0_waitForBell 0 = .ok (.iload_n 2, 1) := by decide +kernel
theorem dX0_waitForBell_1 : decode cX0_waitForBell 1 = .ok (.ifCond .lt 9, 3) := by decide +kernel
theorem dX0_waitForBell_4 : decode cX0_waitForBell 4 = .ok (.iload_n 2, 1) := by decide +kernel
theorem dX0_waitForBell_5 : decode cX0_waitForBell 5 = .ok (.bipush 16, 2) := by decide +kernel
theorem dX0_waitForBell_7 : decode cX0_waitForBell 7 = .ok (.if_icmp .lt 6, 3) := by decide +kernel
theorem dX0_waitForBell_10 : decode cX0_waitForBell 10 = .ok (.bipush 10, 2) := by decide +kernel
theorem dX0_waitForBell_12 : decode cX0_waitForBell 12 = .ok (.ireturn, 1) := by decide +kernel
theorem dX0_waitForBell_13 : decode cX0_waitForBell 13 = .ok (.aload_n 0, 1) := by decide +kernel
theorem dX0_waitForBell_14 : decode cX0_waitForBell 14 = .ok (.aload_n 1, 1) := by decide +kernel
theorem dX0_waitForBell_15 : decode cX0_waitForBell 15 = .ok (.iconst 2, 1) := by decide +kernel
theorem dX0_waitForBell_16 : decode cX0_waitForBell 16 = .ok (.invokevirtual 283, 3) := by decide +kernel
theorem dX0_waitForBell_19 : decode cX0_waitForBell 19 = .ok (.aload_n 1, 1) := by decide +kernel
theorem dX0_waitForBell_20 : decode cX0_waitForBell 20 = .ok (.iload_n 2, 1) := by decide +kernel
theorem dX0_waitForBell_21 : decode cX0_waitForBell 21 = .ok (.putfield 115, 3) := by decide +kernel
theorem dX0_waitForBell_24 : decode cX0_waitForBell 24 = .ok (.bipush (-2), 2) := by decide +kernel
theorem dX0_waitForBell_26 : decode cX0_waitForBell 26 = .ok (.ireturn, 1) := by decide +kernel
theorem dX0_ringFrom_0 : decode cX0_ringFrom 0 = .ok (.iload_n 1, 1) := by decide +kernel
theorem dX0_ringFrom_1 : decode cX0_ringFrom 1 = .ok (.ifCond .lt 9, 3) := by decide +kernel
theorem dX0_ringFrom_4 : decode cX0_ringFrom 4 = .ok (.iload_n 1, 1) := by decide +kernel
theorem dX0_ringFrom_5 : decode cX0_ringFrom 5 = .ok (.bipush 16, 2) := by decide +kernel
theorem dX0_ringFrom_7 : decode cX0_ringFrom 7 = .ok (.if_icmp .lt 6, 3) := by decide +kernel
theorem dX0_ringFrom_10 : decode cX0_ringFrom 10 = .ok (.bipush 10, 2) := by decide +kernel
theorem dX0_ringFrom_12 : decode cX0_ringFrom 12 = .ok (.ireturn, 1) := by decide +kernel
theorem dX0_ringFrom_13 : decode cX0_ringFrom 13 = .ok (.aload_n 0, 1) := by decide +kernel
theorem dX0_ringFrom_14 : decode cX0_ringFrom 14 = .ok (.iload_n 1, 1) := by decide +kernel
theorem dX0_ringFrom_15 : decode cX0_ringFrom 15 = .ok (.invokevirtual 286, 3) := by decide +kernel
theorem dX0_ringFrom_18 : decode cX0_ringFrom 18 = .ok (.pop, 1) := by decide +kernel
theorem dX0_ringFrom_19 : decode cX0_ringFrom 19 = .ok (.iconst (-1), 1) := by decide +kernel
theorem dX0_ringFrom_20 : decode cX0_ringFrom 20 = .ok (.ireturn, 1) := by decide +kernel
theorem dX0_sleep_0 : decode cX0_sleep 0 = .ok (.iload_n 2, 1) := by decide +kernel
theorem dX0_sleep_1 : decode cX0_sleep 1 = .ok (.ifCond .gt 5, 3) := by decide +kernel
theorem dX0_sleep_4 : decode cX0_sleep 4 = .ok (.iconst (-1), 1) := by decide +kernel
theorem dX0_sleep_5 : decode cX0_sleep 5 = .ok (.ireturn, 1) := by decide +kernel
theorem dX0_sleep_6 : decode cX0_sleep 6 = .ok (.aload_n 0, 1) := by decide +kernel
theorem dX0_sleep_7 : decode cX0_sleep 7 = .ok (.aload_n 1, 1) := by decide +kernel
theorem dX0_sleep_8 : decode cX0_sleep 8 = .ok (.iconst 3, 1) := by decide +kernel
theorem dX0_sleep_9 : decode cX0_sleep 9 = .ok (.invokevirtual 283, 3) := by decide +kernel
theorem dX0_sleep_12 : decode cX0_sleep 12 = .ok (.aload_n 1, 1) := by decide +kernel
theorem dX0_sleep_13 : decode cX0_sleep 13 = .ok (.aload_n 0, 1) := by decide +kernel
theorem dX0_sleep_14 : decode cX0_sleep 14 = .ok (.getfield 47, 3) := by decide +kernel
theorem dX0_sleep_17 : decode cX0_sleep 17 = .ok (.iload_n 2, 1) := by decide +kernel
theorem dX0_sleep_18 : decode cX0_sleep 18 = .ok (.iadd, 1) := by decide +kernel
theorem dX0_sleep_19 : decode cX0_sleep 19 = .ok (.putfield 138, 3) := by decide +kernel
theorem dX0_sleep_22 : decode cX0_sleep 22 = .ok (.bipush (-2), 2) := by decide +kernel
theorem dX0_sleep_24 : decode cX0_sleep 24 = .ok (.ireturn, 1) := by decide +kernel
theorem dX0_beginWait_0 : decode cX0_beginWait 0 = .ok (.aload_n 1, 1) := by decide +kernel
theorem dX0_beginWait_1 : decode cX0_beginWait 1 = .ok (.iload_n 2, 1) := by decide +kernel
theorem dX0_beginWait_2 : decode cX0_beginWait 2 = .ok (.putfield 93, 3) := by decide +kernel
theorem dX0_beginWait_5 : decode cX0_beginWait 5 = .ok (.aload_n 1, 1) := by decide +kernel
theorem dX0_beginWait_6 : decode cX0_beginWait 6 = .ok (.getfield 204, 3) := by decide +kernel
theorem dX0_beginWait_9 : decode cX0_beginWait 9 = .ok (.iconst 3, 1) := by decide +kernel
theorem dX0_beginWait_10 : decode cX0_beginWait 10 = .ok (.if_icmp .eq 11, 3) := by decide +kernel
theorem dX0_beginWait_13 : decode cX0_beginWait 13 = .ok (.aload_n 1, 1) := by decide +kernel
theorem dX0_beginWait_14 : decode cX0_beginWait 14 = .ok (.getfield 204, 3) := by decide +kernel
theorem dX0_beginWait_17 : decode cX0_beginWait 17 = .ok (.iconst 4, 1) := by decide +kernel
theorem dX0_beginWait_18 : decode cX0_beginWait 18 = .ok (.if_icmp .ne 13, 3) := by decide +kernel
theorem dX0_beginWait_21 : decode cX0_beginWait 21 = .ok (.aload_n 0, 1) := by decide +kernel
theorem dX0_beginWait_22 : decode cX0_beginWait 22 = .ok (.getfield 40, 3) := by decide +kernel
theorem dX0_beginWait_25 : decode cX0_beginWait 25 = .ok (.iconst 4, 1) := by decide +kernel
theorem dX0_beginWait_26 : decode cX0_beginWait 26 = .ok (.dup2, 1) := by decide +kernel
theorem dX0_beginWait_27 : decode cX0_beginWait 27 = .ok (.iaload, 1) := by decide +kernel
theorem dX0_beginWait_28 : decode cX0_beginWait 28 = .ok (.iconst 1, 1) := by decide +kernel
theorem dX0_beginWait_29 : decode cX0_beginWait 29 = .ok (.iadd, 1) := by decide +kernel
theorem dX0_beginWait_30 : decode cX0_beginWait 30 = .ok (.iastore, 1) := by decide +kernel
theorem dX0_beginWait_31 : decode cX0_beginWait 31 = .ok (.aload_n 1, 1) := by decide +kernel
theorem dX0_beginWait_32 : decode cX0_beginWait 32 = .ok (.getfield 204, 3) := by decide +kernel
theorem dX0_beginWait_35 : decode cX0_beginWait 35 = .ok (.iconst 2, 1) := by decide +kernel
theorem dX0_beginWait_36 : decode cX0_beginWait 36 = .ok (.if_icmp .ne 13, 3) := by decide +kernel
theorem dX0_beginWait_39 : decode cX0_beginWait 39 = .ok (.aload_n 0, 1) := by decide +kernel
theorem dX0_beginWait_40 : decode cX0_beginWait 40 = .ok (.getfield 40, 3) := by decide +kernel
theorem dX0_beginWait_43 : decode cX0_beginWait 43 = .ok (.iconst 5, 1) := by decide +kernel
theorem dX0_beginWait_44 : decode cX0_beginWait 44 = .ok (.dup2, 1) := by decide +kernel
theorem dX0_beginWait_45 : decode cX0_beginWait 45 = .ok (.iaload, 1) := by decide +kernel
theorem dX0_beginWait_46 : decode cX0_beginWait 46 = .ok (.iconst 1, 1) := by decide +kernel
theorem dX0_beginWait_47 : decode cX0_beginWait 47 = .ok (.iadd, 1) := by decide +kernel
theorem dX0_beginWait_48 : decode cX0_beginWait 48 = .ok (.iastore, 1) := by decide +kernel
theorem dX0_beginWait_49 : decode cX0_beginWait 49 = .ok (.aload_n 0, 1) := by decide +kernel
theorem dX0_beginWait_50 : decode cX0_beginWait 50 = .ok (.getfield 40, 3) := by decide +kernel
theorem dX0_beginWait_53 : decode cX0_beginWait 53 = .ok (.iconst 3, 1) := by decide +kernel
theorem dX0_beginWait_54 : decode cX0_beginWait 54 = .ok (.dup2, 1) := by decide +kernel
theorem dX0_beginWait_55 : decode cX0_beginWait 55 = .ok (.iaload, 1) := by decide +kernel
theorem dX0_beginWait_56 : decode cX0_beginWait 56 = .ok (.iconst 1, 1) := by decide +kernel
theorem dX0_beginWait_57 : decode cX0_beginWait 57 = .ok (.iadd, 1) := by decide +kernel
theorem dX0_beginWait_58 : decode cX0_beginWait 58 = .ok (.iastore, 1) := by decide +kernel
theorem dX0_beginWait_59 : decode cX0_beginWait 59 = .ok (.return_, 1) := by decide +kernel
theorem dX0_spawn_0 : decode cX0_spawn 0 = .ok (.iload_n 2, 1) := by decide +kernel
theorem dX0_spawn_1 : decode cX0_spawn 1 = .ok (.ifCond .lt 9, 3) := by decide +kernel
theorem dX0_spawn_4 : decode cX0_spawn 4 = .ok (.iload_n 2, 1) := by decide +kernel
theorem dX0_spawn_5 : decode cX0_spawn 5 = .ok (.bipush 32, 2) := by decide +kernel
theorem dX0_spawn_7 : decode cX0_spawn 7 = .ok (.if_icmp .lt 6, 3) := by decide +kernel
theorem dX0_spawn_10 : decode cX0_spawn 10 = .ok (.bipush 10, 2) := by decide +kernel
theorem dX0_spawn_12 : decode cX0_spawn 12 = .ok (.ireturn, 1) := by decide +kernel
theorem dX0_spawn_13 : decode cX0_spawn 13 = .ok (.aload_n 0, 1) := by decide +kernel
theorem dX0_spawn_14 : decode cX0_spawn 14 = .ok (.aload_n 0, 1) := by decide +kernel
theorem dX0_spawn_15 : decode cX0_spawn 15 = .ok (.aload_n 1, 1) := by decide +kernel
theorem dX0_spawn_16 : decode cX0_spawn 16 = .ok (.getfield 204, 3) := by decide +kernel
theorem dX0_spawn_19 : decode cX0_spawn 19 = .ok (.iload_n 2, 1) := by decide +kernel
theorem dX0_spawn_20 : decode cX0_spawn 20 = .ok (.aload_n 1, 1) := by decide +kernel
theorem dX0_spawn_21 : decode cX0_spawn 21 = .ok (.getfield 289, 3) := by decide +kernel
theorem dX0_spawn_24 : decode cX0_spawn 24 = .ok (.invokevirtual 292, 3) := by decide +kernel
theorem dX0_spawn_27 : decode cX0_spawn 27 = .ok (.invokevirtual 89, 3) := by decide +kernel
theorem dX0_spawn_30 : decode cX0_spawn 30 = .ok (.astore_n 3, 1) := by decide +kernel
theorem dX0_spawn_31 : decode cX0_spawn 31 = .ok (.aload_n 3, 1) := by decide +kernel
theorem dX0_spawn_32 : decode cX0_spawn 32 = .ok (.ifnonnull 6, 3) := by decide +kernel
theorem dX0_spawn_35 : decode cX0_spawn 35 = .ok (.bipush 11, 2) := by decide +kernel
theorem dX0_spawn_37 : decode cX0_spawn 37 = .ok (.ireturn, 1) := by decide +kernel
theorem dX0_spawn_38 : decode cX0_spawn 38 = .ok (.aload_n 3, 1) := by decide +kernel
theorem dX0_spawn_39 : decode cX0_spawn 39 = .ok (.aload_n 1, 1) := by decide +kernel
theorem dX0_spawn_40 : decode cX0_spawn 40 = .ok (.getfield 153, 3) := by decide +kernel
theorem dX0_spawn_43 : decode cX0_spawn 43 = .ok (.aload_n 1, 1) := by decide +kernel
theorem dX0_spawn_44 : decode cX0_spawn 44 = .ok (.getfield 156, 3) := by decide +kernel
theorem dX0_spawn_47 : decode cX0_spawn 47 = .ok (.aload_n 0, 1) := by decide +kernel
theorem dX0_spawn_48 : decode cX0_spawn 48 = .ok (.getfield 47, 3) := by decide +kernel
theorem dX0_spawn_51 : decode cX0_spawn 51 = .ok (.invokevirtual 104, 3) := by decide +kernel
theorem dX0_spawn_54 : decode cX0_spawn 54 = .ok (.iconst (-1), 1) := by decide +kernel
theorem dX0_spawn_55 : decode cX0_spawn 55 = .ok (.ireturn, 1) := by decide +kernel
theorem dX0_getShorts_0 : decode cX0_getShorts 0 = .ok (.aload_n 1, 1) := by decide +kernel
theorem dX0_getShorts_1 : decode cX0_getShorts 1 = .ok (.getfield 296, 3) := by decide +kernel
theorem dX0_getShorts_4 : decode cX0_getShorts 4 = .ok (.ifCond .lt 6, 3) := by decide +kernel
theorem dX0_getShorts_7 : decode cX0_getShorts 7 = .ok (.bipush 11, 2) := by decide +kernel
theorem dX0_getShorts_9 : decode cX0_getShorts 9 = .ok (.ireturn, 1) := by decide +kernel
theorem dX0_getShorts_10 : decode cX0_getShorts 10 = .ok (.iload_n 2, 1) := by decide +kernel
theorem dX0_getShorts_11 : decode cX0_getShorts 11 = .ok (.ifCond .ge 5, 3) := by decide +kernel
theorem dX0_getShorts_14 : decode cX0_getShorts 14 = .ok (.iconst 4, 1) := by decide +kernel
theorem dX0_getShorts_15 : decode cX0_getShorts 15 = .ok (.ireturn, 1) := by decide +kernel
theorem dX0_getShorts_16 : decode cX0_getShorts 16 = .ok (.aload_n 1, 1) := by decide +kernel
theorem dX0_getShorts_17 : decode cX0_getShorts 17 = .ok (.iload_n 2, 1) := by decide +kernel
theorem dX0_getShorts_18 : decode cX0_getShorts 18 = .ok (.invokevirtual 299, 3) := by decide +kernel
theorem dX0_getShorts_21 : decode cX0_getShorts 21 = .ok (.iconst (-1), 1) := by decide +kernel
theorem dX0_getShorts_22 : decode cX0_getShorts 22 = .ok (.ireturn, 1) := by decide +kernel
theorem dX0_findShort_0 : decode cX0_findShort 0 = .ok (.aload_n 1, 1) := by decide +kernel
theorem dX0_findShort_1 : decode cX0_findShort 1 = .ok (.getfield 296, 3) := by decide +kernel
theorem dX0_findShort_4 : decode cX0_findShort 4 = .ok (.ifCond .ge 6, 3) := by decide +kernel
theorem dX0_findShort_7 : decode cX0_findShort 7 = .ok (.bipush 8, 2) := by decide +kernel
theorem dX0_findShort_9 : decode cX0_findShort 9 = .ok (.ireturn, 1) := by decide +kernel
theorem dX0_findShort_10 : decode cX0_findShort 10 = .ok (.aload_n 1, 1) := by decide +kernel
theorem dX0_findShort_11 : decode cX0_findShort 11 = .ok (.iload_n 2, 1) := by decide +kernel
theorem dX0_findShort_12 : decode cX0_findShort 12 = .ok (.invokevirtual 302, 3) := by decide +kernel
theorem dX0_findShort_15 : decode cX0_findShort 15 = .ok (.ifCond .eq 7, 3) := by decide +kernel
theorem dX0_findShort_18 : decode cX0_findShort 18 = .ok (.iconst (-1), 1) := by decide +kernel
theorem dX0_findShort_19 : decode cX0_findShort 19 = .ok (.goto 5, 3) := by decide +kernel
theorem dX0_findShort_22 : decode cX0_findShort 22 = .ok (.bipush 9, 2) := by decide +kernel
theorem dX0_findShort_24 : decode cX0_findShort 24 = .ok (.ireturn, 1) := by decide +kernel
theorem dX0_stamp_0 : decode cX0_stamp 0 = .ok (.aload_n 1, 1) := by decide +kernel
theorem dX0_stamp_1 : decode cX0_stamp 1 = .ok (.iload_n 2, 1) := by decide +kernel
theorem dX0_stamp_2 : decode cX0_stamp 2 = .ok (.aload_n 0, 1) := by decide +kernel
theorem dX0_stamp_3 : decode cX0_stamp 3 = .ok (.getfield 47, 3) := by decide +kernel
theorem dX0_stamp_6 : decode cX0_stamp 6 = .ok (.invokevirtual 306, 3) := by decide +kernel
theorem dX0_stamp_9 : decode cX0_stamp 9 = .ok (.aload_n 0, 1) := by decide +kernel
theorem dX0_stamp_10 : decode cX0_stamp 10 = .ok (.aload_n 1, 1) := by decide +kernel
theorem dX0_stamp_11 : decode cX0_stamp 11 = .ok (.iload_n 2, 1) := by decide +kernel
theorem dX0_stamp_12 : decode cX0_stamp 12 = .ok (.invokevirtual 310, 3) := by decide +kernel
theorem dX0_stamp_15 : decode cX0_stamp 15 = .ok (.ireturn, 1) := by decide +kernel
theorem dX0_workByShort_0 : decode cX0_workByShort 0 = .ok (.aload_n 1, 1) := by decide +kernel
theorem dX0_workByShort_1 : decode cX0_workByShort 1 = .ok (.iconst 0, 1) := by decide +kernel
theorem dX0_workByShort_2 : decode cX0_workByShort 2 = .ok (.aload_n 1, 1) := by decide +kernel
theorem dX0_workByShort_3 : decode cX0_workByShort 3 = .ok (.iload_n 2, 1) := by decide +kernel
theorem dX0_workByShort_4 : decode cX0_workByShort 4 = .ok (.invokevirtual 313, 3) := by decide +kernel
theorem dX0_workByShort_7 : decode cX0_workByShort 7 = .ok (.invokestatic 236, 3) := by decide +kernel
theorem dX0_workByShort_10 : decode cX0_workByShort 10 = .ok (.putfield 216, 3) := by decide +kernel
theorem dX0_workByShort_13 : decode cX0_workByShort 13 = .ok (.aload_n 0, 1) := by decide +kernel
theorem dX0_workByShort_14 : decode cX0_workByShort 14 = .ok (.aload_n 1, 1) := by decide +kernel
theorem dX0_workByShort_15 : decode cX0_workByShort 15 = .ok (.iload_n 2, 1) := by decide +kernel
theorem dX0_workByShort_16 : decode cX0_workByShort 16 = .ok (.invokevirtual 310, 3) := by decide +kernel
theorem dX0_workByShort_19 : decode cX0_workByShort 19 = .ok (.ireturn, 1) := by decide +kernel
theorem dX0_claim_0 : decode cX0_claim 0 = .ok (.iload_n 2, 1) := by decide +kernel
theorem dX0_claim_1 : decode cX0_claim 1 = .ok (.ifCond .lt 8, 3) := by decide +kernel
theorem dX0_claim_4 : decode cX0_claim 4 = .ok (.iload_n 2, 1) := by decide +kernel
theorem dX0_claim_5 : decode cX0_claim 5 = .ok (.iconst 4, 1) := by decide +kernel
theorem dX0_claim_6 : decode cX0_claim 6 = .ok (.if_icmp .le 6, 3) := by decide +kernel
theorem dX0_claim_9 : decode cX0_claim 9 = .ok (.bipush 10, 2) := by decide +kernel
theorem dX0_claim_11 : decode cX0_claim 11 = .ok (.ireturn, 1) := by decide +kernel
theorem dX0_claim_12 : decode cX0_claim 12 = .ok (.aload_n 1, 1) := by decide +kernel
theorem dX0_claim_13 : decode cX0_claim 13 = .ok (.iload_n 2, 1) := by decide +kernel
theorem dX0_claim_14 : decode cX0_claim 14 = .ok (.invokevirtual 316, 3) := by decide +kernel
theorem dX0_claim_17 : decode cX0_claim 17 = .ok (.ifCond .ne 5, 3) := by decide +kernel
theorem dX0_claim_20 : decode cX0_claim 20 = .ok (.iconst 3, 1) := by decide +kernel
theorem dX0_claim_21 : decode cX0_claim 21 = .ok (.ireturn, 1) := by decide +kernel
theorem dX0_claim_22 : decode cX0_claim 22 = .ok (.aload_n 1, 1) := by decide +kernel
theorem dX0_claim_23 : decode cX0_claim 23 = .ok (.dup, 1) := by decide +kernel
theorem dX0_claim_24 : decode cX0_claim 24 = .ok (.getfield 201, 3) := by decide +kernel
theorem dX0_claim_27 : decode cX0_claim 27 = .ok (.iload_n 2, 1) := by decide +kernel
theorem dX0_claim_28 : decode cX0_claim 28 = .ok (.iconst 1, 1) := by decide +kernel
theorem dX0_claim_29 : decode cX0_claim 29 = .ok (.if_icmp .eq 8, 3) := by decide +kernel
theorem dX0_claim_32 : decode cX0_claim 32 = .ok (.iload_n 2, 1) := by decide +kernel
theorem dX0_claim_33 : decode cX0_claim 33 = .ok (.iconst 2, 1) := by decide +kernel
theorem dX0_claim_34 : decode cX0_claim 34 = .ok (.if_icmp .ne 7, 3) := by decide +kernel
theorem dX0_claim_37 : decode cX0_claim 37 = .ok (.iconst 1, 1) := by decide +kernel
theorem dX0_claim_38 : decode cX0_claim 38 = .ok (.goto 4, 3) := by decide +kernel
theorem dX0_claim_41 : decode cX0_claim 41 = .ok (.iconst 0, 1) := by decide +kernel
theorem dX0_claim_42 : decode cX0_claim 42 = .ok (.iadd, 1) := by decide +kernel
theorem dX0_claim_43 : decode cX0_claim 43 = .ok (.putfield 201, 3) := by decide +kernel
theorem dX0_claim_46 : decode cX0_claim 46 = .ok (.iconst (-1), 1) := by decide +kernel
theorem dX0_claim_47 : decode cX0_claim 47 = .ok (.ireturn, 1) := by decide +kernel
theorem dX0_fail_0 : decode cX0_fail 0 = .ok (.iload_n 1, 1) := by decide +kernel
theorem dX0_fail_1 : decode cX0_fail 1 = .ok (.tableswitch 36 0 3 #[31, 33, 33, 31], 31) := by decide +kernel
theorem dX0_fail_32 : decode cX0_fail 32 = .ok (.iconst 5, 1) := by decide +kernel
theorem dX0_fail_33 : decode cX0_fail 33 = .ok (.ireturn, 1) := by decide +kernel
theorem dX0_fail_34 : decode cX0_fail 34 = .ok (.bipush 6, 2) := by decide +kernel
theorem dX0_fail_36 : decode cX0_fail 36 = .ok (.ireturn, 1) := by decide +kernel
theorem dX0_fail_37 : decode cX0_fail 37 = .ok (.bipush 10, 2) := by decide +kernel
theorem dX0_fail_39 : decode cX0_fail 39 = .ok (.ireturn, 1) := by decide +kernel
theorem dX0_ticksUntilChosen_0 : decode cX0_ticksUntilChosen 0 = .ok (.aload_n 0, 1) := by decide +kernel
theorem dX0_ticksUntilChosen_1 : decode cX0_ticksUntilChosen 1 = .ok (.invokevirtual 159, 3) := by decide +kernel
theorem dX0_ticksUntilChosen_4 : decode cX0_ticksUntilChosen 4 = .ok (.iconst 0, 1) := by decide +kernel
theorem dX0_ticksUntilChosen_5 : decode cX0_ticksUntilChosen 5 = .ok (.istore_n 2, 1) := by decide +kernel
theorem dX0_ticksUntilChosen_6 : decode cX0_ticksUntilChosen 6 = .ok (.lconst 0, 1) := by decide +kernel
theorem dX0_ticksUntilChosen_7 : decode cX0_ticksUntilChosen 7 = .ok (.lstore_n 3, 1) := by decide +kernel
theorem dX0_ticksUntilChosen_8 : decode cX0_ticksUntilChosen 8 = .ok (.iconst 0, 1) := by decide +kernel
theorem dX0_ticksUntilChosen_9 : decode cX0_ticksUntilChosen 9 = .ok (.istore 5, 2) := by decide +kernel
theorem dX0_ticksUntilChosen_11 : decode cX0_ticksUntilChosen 11 = .ok (.iload 5, 2) := by decide +kernel
theorem dX0_ticksUntilChosen_13 : decode cX0_ticksUntilChosen 13 = .ok (.aload_n 0, 1) := by decide +kernel
theorem dX0_ticksUntilChosen_14 : decode cX0_ticksUntilChosen 14 = .ok (.getfield 43, 3) := by decide +kernel
theorem dX0_ticksUntilChosen_17 : decode cX0_ticksUntilChosen 17 = .ok (.if_icmp .ge 74, 3) := by decide +kernel
theorem dX0_ticksUntilChosen_20 : decode cX0_ticksUntilChosen 20 = .ok (.aload_n 0, 1) := by decide +kernel
theorem dX0_ticksUntilChosen_21 : decode cX0_ticksUntilChosen 21 = .ok (.getfield 11, 3) := by decide +kernel
theorem dX0_ticksUntilChosen_24 : decode cX0_ticksUntilChosen 24 = .ok (.iload 5, 2) := by decide +kernel
theorem dX0_ticksUntilChosen_26 : decode cX0_ticksUntilChosen 26 = .ok (.aaload, 1) := by decide +kernel
theorem dX0_ticksUntilChosen_27 : decode cX0_ticksUntilChosen 27 = .ok (.astore 6, 2) := by decide +kernel
theorem dX0_ticksUntilChosen_29 : decode cX0_ticksUntilChosen 29 = .ok (.aload 6, 2) := by decide +kernel
theorem dX0_ticksUntilChosen_31 : decode cX0_ticksUntilChosen 31 = .ok (.getfield 93, 3) := by decide +kernel
theorem dX0_ticksUntilChosen_34 : decode cX0_ticksUntilChosen 34 = .ok (.ifCond .ne 51, 3) := by decide +kernel
theorem dX0_ticksUntilChosen_37 : decode cX0_ticksUntilChosen 37 = .ok (.aload 6, 2) := by decide +kernel
theorem dX0_ticksUntilChosen_39 : decode cX0_ticksUntilChosen 39 = .ok (.getfield 168, 3) := by decide +kernel
theorem dX0_ticksUntilChosen_42 : decode cX0_ticksUntilChosen 42 = .ok (.aload_n 1, 1) := by decide +kernel
theorem dX0_ticksUntilChosen_43 : decode cX0_ticksUntilChosen 43 = .ok (.getfield 168, 3) := by decide +kernel
theorem dX0_ticksUntilChosen_46 : decode cX0_ticksUntilChosen 46 = .ok (.lcmp, 1) := by decide +kernel
theorem dX0_ticksUntilChosen_47 : decode cX0_ticksUntilChosen 47 = .ok (.ifCond .ge 38, 3) := by decide +kernel
theorem dX0_ticksUntilChosen_50 : decode cX0_ticksUntilChosen 50 = .ok (.aload 6, 2) := by decide +kernel
theorem dX0_ticksUntilChosen_52 : decode cX0_ticksUntilChosen 52 = .ok (.getfield 168, 3) := by decide +kernel
theorem dX0_ticksUntilChosen_55 : decode cX0_ticksUntilChosen 55 = .ok (.invokestatic 319, 3) := by decide +kernel
theorem dX0_ticksUntilChosen_58 : decode cX0_ticksUntilChosen 58 = .ok (.aload 6, 2) := by decide +kernel
theorem dX0_ticksUntilChosen_60 : decode cX0_ticksUntilChosen 60 = .ok (.getfield 108, 3) := by decide +kernel
theorem dX0_ticksUntilChosen_63 : decode cX0_ticksUntilChosen 63 = .ok (.if_icmp .ne 19, 3) := by decide +kernel
theorem dX0_ticksUntilChosen_66 : decode cX0_ticksUntilChosen 66 = .ok (.lload_n 3, 1) := by decide +kernel
theorem dX0_ticksUntilChosen_67 : decode cX0_ticksUntilChosen 67 = .ok (.aload_n 0, 1) := by decide +kernel
theorem dX0_ticksUntilChosen_68 : decode cX0_ticksUntilChosen 68 = .ok (.aload 6, 2) := by decide +kernel
theorem dX0_ticksUntilChosen_70 : decode cX0_ticksUntilChosen 70 = .ok (.aload_n 1, 1) := by decide +kernel
theorem dX0_ticksUntilChosen_71 : decode cX0_ticksUntilChosen 71 = .ok (.getfield 168, 3) := by decide +kernel
theorem dX0_ticksUntilChosen_74 : decode cX0_ticksUntilChosen 74 = .ok (.invokevirtual 322, 3) := by decide +kernel
theorem dX0_ticksUntilChosen_77 : decode cX0_ticksUntilChosen 77 = .ok (.ladd, 1) := by decide +kernel
theorem dX0_ticksUntilChosen_78 : decode cX0_ticksUntilChosen 78 = .ok (.lstore_n 3, 1) := by decide +kernel
theorem dX0_ticksUntilChosen_79 : decode cX0_ticksUntilChosen 79 = .ok (.goto 6, 3) := by decide +kernel
theorem dX0_ticksUntilChosen_82 : decode cX0_ticksUntilChosen 82 = .ok (.iinc 2 1, 3) := by decide +kernel
theorem dX0_ticksUntilChosen_85 : decode cX0_ticksUntilChosen 85 = .ok (.iinc 5 1, 3) := by decide +kernel
theorem dX0_ticksUntilChosen_88 : decode cX0_ticksUntilChosen 88 = .ok (.goto (-77), 3) := by decide +kernel
theorem dX0_ticksUntilChosen_91 : decode cX0_ticksUntilChosen 91 = .ok (.aload_n 0, 1) := by decide +kernel
theorem dX0_ticksUntilChosen_92 : decode cX0_ticksUntilChosen 92 = .ok (.getfield 50, 3) := by decide +kernel
theorem dX0_ticksUntilChosen_95 : decode cX0_ticksUntilChosen 95 = .ok (.iload_n 2, 1) := by decide +kernel
theorem dX0_ticksUntilChosen_96 : decode cX0_ticksUntilChosen 96 = .ok (.isub, 1) := by decide +kernel
theorem dX0_ticksUntilChosen_97 : decode cX0_ticksUntilChosen 97 = .ok (.istore 5, 2) := by decide +kernel
theorem dX0_ticksUntilChosen_99 : decode cX0_ticksUntilChosen 99 = .ok (.iload 5, 2) := by decide +kernel
theorem dX0_ticksUntilChosen_101 : decode cX0_ticksUntilChosen 101 = .ok (.ifCond .le 13, 3) := by decide +kernel
theorem dX0_ticksUntilChosen_104 : decode cX0_ticksUntilChosen 104 = .ok (.lload_n 3, 1) := by decide +kernel
theorem dX0_ticksUntilChosen_105 : decode cX0_ticksUntilChosen 105 = .ok (.iload 5, 2) := by decide +kernel
theorem dX0_ticksUntilChosen_107 : decode cX0_ticksUntilChosen 107 = .ok (.i2l, 1) := by decide +kernel
theorem dX0_ticksUntilChosen_108 : decode cX0_ticksUntilChosen 108 = .ok (.ldiv, 1) := by decide +kernel
theorem dX0_ticksUntilChosen_109 : decode cX0_ticksUntilChosen 109 = .ok (.lconst 1, 1) := by decide +kernel
theorem dX0_ticksUntilChosen_110 : decode cX0_ticksUntilChosen 110 = .ok (.ladd, 1) := by decide +kernel
theorem dX0_ticksUntilChosen_111 : decode cX0_ticksUntilChosen 111 = .ok (.goto 6, 3) := by decide +kernel
theorem dX0_ticksUntilChosen_114 : decode cX0_ticksUntilChosen 114 = .ok (.ldc2_w 162, 3) := by decide +kernel
theorem dX0_ticksUntilChosen_117 : decode cX0_ticksUntilChosen 117 = .ok (.lreturn, 1) := by decide +kernel
theorem dX0_turnsAhead_0 : decode cX0_turnsAhead 0 = .ok (.lload_n 2, 1) := by decide +kernel
theorem dX0_turnsAhead_1 : decode cX0_turnsAhead 1 = .ok (.invokestatic 171, 3) := by decide +kernel
theorem dX0_turnsAhead_4 : decode cX0_turnsAhead 4 = .ok (.ifCond .ne 9, 3) := by decide +kernel
theorem dX0_turnsAhead_7 : decode cX0_turnsAhead 7 = .ok (.aload_n 1, 1) := by decide +kernel
theorem dX0_turnsAhead_8 : decode cX0_turnsAhead 8 = .ok (.getfield 201, 3) := by decide +kernel
theorem dX0_turnsAhead_11 : decode cX0_turnsAhead 11 = .ok (.i2l, 1) := by decide +kernel
theorem dX0_turnsAhead_12 : decode cX0_turnsAhead 12 = .ok (.lreturn, 1) := by decide +kernel
theorem dX0_turnsAhead_13 : decode cX0_turnsAhead 13 = .ok (.aload_n 1, 1) := by decide +kernel
theorem dX0_turnsAhead_14 : decode cX0_turnsAhead 14 = .ok (.lload_n 2, 1) := by decide +kernel
theorem dX0_turnsAhead_15 : decode cX0_turnsAhead 15 = .ok (.invokevirtual 326, 3) := by decide +kernel
theorem dX0_turnsAhead_18 : decode cX0_turnsAhead 18 = .ok (.lstore 4, 2) := by decide +kernel
theorem dX0_turnsAhead_20 : decode cX0_turnsAhead 20 = .ok (.aload_n 1, 1) := by decide +kernel
theorem dX0_turnsAhead_21 : decode cX0_turnsAhead 21 = .ok (.getfield 204, 3) := by decide +kernel
theorem dX0_turnsAhead_24 : decode cX0_turnsAhead 24 = .ok (.tableswitch 61 1 4 #[32, 41, 61, 52], 32) := by decide +kernel
theorem dX0_turnsAhead_56 : decode cX0_turnsAhead 56 = .ok (.aload_n 1, 1) := by decide +kernel
theorem dX0_turnsAhead_57 : decode cX0_turnsAhead 57 = .ok (.getfield 201, 3) := by decide +kernel
theorem dX0_turnsAhead_60 : decode cX0_turnsAhead 60 = .ok (.i2l, 1) := by decide +kernel
theorem dX0_turnsAhead_61 : decode cX0_turnsAhead 61 = .ok (.lload 4, 2) := by decide +kernel
theorem dX0_turnsAhead_63 : decode cX0_turnsAhead 63 = .ok (.ladd, 1) := by decide +kernel
theorem dX0_turnsAhead_64 : decode cX0_turnsAhead 64 = .ok (.lreturn, 1) := by decide +kernel
theorem dX0_turnsAhead_65 : decode cX0_turnsAhead 65 = .ok (.aload_n 1, 1) := by decide +kernel
theorem dX0_turnsAhead_66 : decode cX0_turnsAhead 66 = .ok (.getfield 201, 3) := by decide +kernel
theorem dX0_turnsAhead_69 : decode cX0_turnsAhead 69 = .ok (.i2l, 1) := by decide +kernel
theorem dX0_turnsAhead_70 : decode cX0_turnsAhead 70 = .ok (.lload 4, 2) := by decide +kernel
theorem dX0_turnsAhead_72 : decode cX0_turnsAhead 72 = .ok (.invokestatic 329, 3) := by decide +kernel
theorem dX0_turnsAhead_75 : decode cX0_turnsAhead 75 = .ok (.lreturn, 1) := by decide +kernel
theorem dX0_turnsAhead_76 : decode cX0_turnsAhead 76 = .ok (.lload 4, 2) := by decide +kernel
theorem dX0_turnsAhead_78 : decode cX0_turnsAhead 78 = .ok (.lconst 1, 1) := by decide +kernel
theorem dX0_turnsAhead_79 : decode cX0_turnsAhead 79 = .ok (.ladd, 1) := by decide +kernel
theorem dX0_turnsAhead_80 : decode cX0_turnsAhead 80 = .ok (.ldc2_w 332, 3) := by decide +kernel
theorem dX0_turnsAhead_83 : decode cX0_turnsAhead 83 = .ok (.ldiv, 1) := by decide +kernel
theorem dX0_turnsAhead_84 : decode cX0_turnsAhead 84 = .ok (.lreturn, 1) := by decide +kernel
theorem dX0_turnsAhead_85 : decode cX0_turnsAhead 85 = .ok (.lload 4, 2) := by decide +kernel
theorem dX0_turnsAhead_87 : decode cX0_turnsAhead 87 = .ok (.lreturn, 1) := by decide +kernel
theorem dX0_summed_0 : decode cX0_summed 0 = .ok (.ldc2_w 334, 3) := by decide +kernel
theorem dX0_summed_3 : decode cX0_summed 3 = .ok (.lstore_n 1, 1) := by decide +kernel
theorem dX0_summed_4 : decode cX0_summed 4 = .ok (.lload_n 1, 1) := by decide +kernel
theorem dX0_summed_5 : decode cX0_summed 5 = .ok (.ldc2_w 336, 3) := by decide +kernel
theorem dX0_summed_8 : decode cX0_summed 8 = .ok (.lmul, 1) := by decide +kernel
theorem dX0_summed_9 : decode cX0_summed 9 = .ok (.aload_n 0, 1) := by decide +kernel
theorem dX0_summed_10 : decode cX0_summed 10 = .ok (.getfield 47, 3) := by decide +kernel
theorem dX0_summed_13 : decode cX0_summed 13 = .ok (.i2l, 1) := by decide +kernel
theorem dX0_summed_14 : decode cX0_summed 14 = .ok (.ladd, 1) := by decide +kernel
theorem dX0_summed_15 : decode cX0_summed 15 = .ok (.lstore_n 1, 1) := by decide +kernel
theorem dX0_summed_16 : decode cX0_summed 16 = .ok (.lload_n 1, 1) := by decide +kernel
theorem dX0_summed_17 : decode cX0_summed 17 = .ok (.ldc2_w 336, 3) := by decide +kernel
theorem dX0_summed_20 : decode cX0_summed 20 = .ok (.lmul, 1) := by decide +kernel
theorem dX0_summed_21 : decode cX0_summed 21 = .ok (.aload_n 0, 1) := by decide +kernel
theorem dX0_summed_22 : decode cX0_summed 22 = .ok (.getfield 43, 3) := by decide +kernel
theorem dX0_summed_25 : decode cX0_summed 25 = .ok (.i2l, 1) := by decide +kernel
theorem dX0_summed_26 : decode cX0_summed 26 = .ok (.ladd, 1) := by decide +kernel
theorem dX0_summed_27 : decode cX0_summed 27 = .ok (.lstore_n 1, 1) := by decide +kernel
theorem dX0_summed_28 : decode cX0_summed 28 = .ok (.lload_n 1, 1) := by decide +kernel
theorem dX0_summed_29 : decode cX0_summed 29 = .ok (.ldc2_w 336, 3) := by decide +kernel
theorem dX0_summed_32 : decode cX0_summed 32 = .ok (.lmul, 1) := by decide +kernel
theorem dX0_summed_33 : decode cX0_summed 33 = .ok (.aload_n 0, 1) := by decide +kernel
theorem dX0_summed_34 : decode cX0_summed 34 = .ok (.getfield 50, 3) := by decide +kernel
theorem dX0_summed_37 : decode cX0_summed 37 = .ok (.i2l, 1) := by decide +kernel
theorem dX0_summed_38 : decode cX0_summed 38 = .ok (.ladd, 1) := by decide +kernel
theorem dX0_summed_39 : decode cX0_summed 39 = .ok (.lstore_n 1, 1) := by decide +kernel
theorem dX0_summed_40 : decode cX0_summed 40 = .ok (.iconst 0, 1) := by decide +kernel
theorem dX0_summed_41 : decode cX0_summed 41 = .ok (.istore_n 3, 1) := by decide +kernel
theorem dX0_summed_42 : decode cX0_summed 42 = .ok (.iload_n 3, 1) := by decide +kernel
theorem dX0_summed_43 : decode cX0_summed 43 = .ok (.aload_n 0, 1) := by decide +kernel
theorem dX0_summed_44 : decode cX0_summed 44 = .ok (.getfield 43, 3) := by decide +kernel
theorem dX0_summed_47 : decode cX0_summed 47 = .ok (.if_icmp .ge 94, 3) := by decide +kernel
theorem dX0_summed_50 : decode cX0_summed 50 = .ok (.aload_n 0, 1) := by decide +kernel
theorem dX0_summed_51 : decode cX0_summed 51 = .ok (.getfield 11, 3) := by decide +kernel
theorem dX0_summed_54 : decode cX0_summed 54 = .ok (.iload_n 3, 1) := by decide +kernel
theorem dX0_summed_55 : decode cX0_summed 55 = .ok (.aaload, 1) := by decide +kernel
theorem dX0_summed_56 : decode cX0_summed 56 = .ok (.astore 4, 2) := by decide +kernel
theorem dX0_summed_58 : decode cX0_summed 58 = .ok (.iconst 0, 1) := by decide +kernel
theorem dX0_summed_59 : decode cX0_summed 59 = .ok (.istore 5, 2) := by decide +kernel
theorem dX0_summed_61 : decode cX0_summed 61 = .ok (.iload 5, 2) := by decide +kernel
theorem dX0_summed_63 : decode cX0_summed 63 = .ok (.bipush 14, 2) := by decide +kernel
theorem dX0_summed_65 : decode cX0_summed 65 = .ok (.if_icmp .gt 24, 3) := by decide +kernel
theorem dX0_summed_68 : decode cX0_summed 68 = .ok (.lload_n 1, 1) := by decide +kernel
theorem dX0_summed_69 : decode cX0_summed 69 = .ok (.ldc2_w 336, 3) := by decide +kernel
theorem dX0_summed_72 : decode cX0_summed 72 = .ok (.lmul, 1) := by decide +kernel
theorem dX0_summed_73 : decode cX0_summed 73 = .ok (.aload 4, 2) := by decide +kernel
theorem dX0_summed_75 : decode cX0_summed 75 = .ok (.iload 5, 2) := by decide +kernel
theorem dX0_summed_77 : decode cX0_summed 77 = .ok (.invokevirtual 338, 3) := by decide +kernel
theorem dX0_summed_80 : decode cX0_summed 80 = .ok (.i2l, 1) := by decide +kernel
theorem dX0_summed_81 : decode cX0_summed 81 = .ok (.ladd, 1) := by decide +kernel
theorem dX0_summed_82 : decode cX0_summed 82 = .ok (.lstore_n 1, 1) := by decide +kernel
theorem dX0_summed_83 : decode cX0_summed 83 = .ok (.iinc 5 1, 3) := by decide +kernel
theorem dX0_summed_86 : decode cX0_summed 86 = .ok (.goto (-25), 3) := by decide +kernel
theorem dX0_summed_89 : decode cX0_summed 89 = .ok (.lload_n 1, 1) := by decide +kernel
theorem dX0_summed_90 : decode cX0_summed 90 = .ok (.ldc2_w 336, 3) := by decide +kernel
theorem dX0_summed_93 : decode cX0_summed 93 = .ok (.lmul, 1) := by decide +kernel
theorem dX0_summed_94 : decode cX0_summed 94 = .ok (.aload 4, 2) := by decide +kernel
theorem dX0_summed_96 : decode cX0_summed 96 = .ok (.getfield 111, 3) := by decide +kernel
theorem dX0_summed_99 : decode cX0_summed 99 = .ok (.ladd, 1) := by decide +kernel
theorem dX0_summed_100 : decode cX0_summed 100 = .ok (.lstore_n 1, 1) := by decide +kernel
theorem dX0_summed_101 : decode cX0_summed 101 = .ok (.iconst 0, 1) := by decide +kernel
theorem dX0_summed_102 : decode cX0_summed 102 = .ok (.istore 5, 2) := by decide +kernel
theorem dX0_summed_104 : decode cX0_summed 104 = .ok (.iload 5, 2) := by decide +kernel
theorem dX0_summed_106 : decode cX0_summed 106 = .ok (.aload 4, 2) := by decide +kernel
theorem dX0_summed_108 : decode cX0_summed 108 = .ok (.getfield 296, 3) := by decide +kernel
theorem dX0_summed_111 : decode cX0_summed 111 = .ok (.if_icmp .ge 24, 3) := by decide +kernel
theorem dX0_summed_114 : decode cX0_summed 114 = .ok (.lload_n 1, 1) := by decide +kernel
theorem dX0_summed_115 : decode cX0_summed 115 = .ok (.ldc2_w 336, 3) := by decide +kernel
theorem dX0_summed_118 : decode cX0_summed 118 = .ok (.lmul, 1) := by decide +kernel
theorem dX0_summed_119 : decode cX0_summed 119 = .ok (.aload 4, 2) := by decide +kernel
theorem dX0_summed_121 : decode cX0_summed 121 = .ok (.iload 5, 2) := by decide +kernel
theorem dX0_summed_123 : decode cX0_summed 123 = .ok (.invokevirtual 313, 3) := by decide +kernel
theorem dX0_summed_126 : decode cX0_summed 126 = .ok (.i2l, 1) := by decide +kernel
theorem dX0_summed_127 : decode cX0_summed 127 = .ok (.ladd, 1) := by decide +kernel
theorem dX0_summed_128 : decode cX0_summed 128 = .ok (.lstore_n 1, 1) := by decide +kernel
theorem dX0_summed_129 : decode cX0_summed 129 = .ok (.iinc 5 1, 3) := by decide +kernel
theorem dX0_summed_132 : decode cX0_summed 132 = .ok (.goto (-28), 3) := by decide +kernel
theorem dX0_summed_135 : decode cX0_summed 135 = .ok (.iinc 3 1, 3) := by decide +kernel
theorem dX0_summed_138 : decode cX0_summed 138 = .ok (.goto (-96), 3) := by decide +kernel
theorem dX0_summed_141 : decode cX0_summed 141 = .ok (.iconst 0, 1) := by decide +kernel
theorem dX0_summed_142 : decode cX0_summed 142 = .ok (.istore_n 3, 1) := by decide +kernel
theorem dX0_summed_143 : decode cX0_summed 143 = .ok (.iload_n 3, 1) := by decide +kernel
theorem dX0_summed_144 : decode cX0_summed 144 = .ok (.bipush 100, 2) := by decide +kernel
theorem dX0_summed_146 : decode cX0_summed 146 = .ok (.if_icmp .ge 23, 3) := by decide +kernel
theorem dX0_summed_149 : decode cX0_summed 149 = .ok (.lload_n 1, 1) := by decide +kernel
theorem dX0_summed_150 : decode cX0_summed 150 = .ok (.ldc2_w 336, 3) := by decide +kernel
theorem dX0_summed_153 : decode cX0_summed 153 = .ok (.lmul, 1) := by decide +kernel
theorem dX0_summed_154 : decode cX0_summed 154 = .ok (.aload_n 0, 1) := by decide +kernel
theorem dX0_summed_155 : decode cX0_summed 155 = .ok (.getfield 30, 3) := by decide +kernel
theorem dX0_summed_158 : decode cX0_summed 158 = .ok (.iload_n 3, 1) := by decide +kernel
theorem dX0_summed_159 : decode cX0_summed 159 = .ok (.iaload, 1) := by decide +kernel
theorem dX0_summed_160 : decode cX0_summed 160 = .ok (.i2l, 1) := by decide +kernel
theorem dX0_summed_161 : decode cX0_summed 161 = .ok (.ladd, 1) := by decide +kernel
theorem dX0_summed_162 : decode cX0_summed 162 = .ok (.lstore_n 1, 1) := by decide +kernel
theorem dX0_summed_163 : decode cX0_summed 163 = .ok (.iinc 3 1, 3) := by decide +kernel
theorem dX0_summed_166 : decode cX0_summed 166 = .ok (.goto (-23), 3) := by decide +kernel
theorem dX0_summed_169 : decode cX0_summed 169 = .ok (.aload_n 0, 1) := by decide +kernel
theorem dX0_summed_170 : decode cX0_summed 170 = .ok (.getfield 26, 3) := by decide +kernel
theorem dX0_summed_173 : decode cX0_summed 173 = .ok (.lload_n 1, 1) := by decide +kernel
theorem dX0_summed_174 : decode cX0_summed 174 = .ok (.invokevirtual 341, 3) := by decide +kernel
theorem dX0_summed_177 : decode cX0_summed 177 = .ok (.lstore_n 1, 1) := by decide +kernel
theorem dX0_summed_178 : decode cX0_summed 178 = .ok (.iconst 0, 1) := by decide +kernel
theorem dX0_summed_179 : decode cX0_summed 179 = .ok (.istore_n 3, 1) := by decide +kernel
theorem dX0_summed_180 : decode cX0_summed 180 = .ok (.iload_n 3, 1) := by decide +kernel
theorem dX0_summed_181 : decode cX0_summed 181 = .ok (.bipush 12, 2) := by decide +kernel
theorem dX0_summed_183 : decode cX0_summed 183 = .ok (.if_icmp .ge 23, 3) := by decide +kernel
theorem dX0_summed_186 : decode cX0_summed 186 = .ok (.lload_n 1, 1) := by decide +kernel
theorem dX0_summed_187 : decode cX0_summed 187 = .ok (.ldc2_w 336, 3) := by decide +kernel
theorem dX0_summed_190 : decode cX0_summed 190 = .ok (.lmul, 1) := by decide +kernel
theorem dX0_summed_191 : decode cX0_summed 191 = .ok (.aload_n 0, 1) := by decide +kernel
theorem dX0_summed_192 : decode cX0_summed 192 = .ok (.getfield 40, 3) := by decide +kernel
theorem dX0_summed_195 : decode cX0_summed 195 = .ok (.iload_n 3, 1) := by decide +kernel
theorem dX0_summed_196 : decode cX0_summed 196 = .ok (.iaload, 1) := by decide +kernel
theorem dX0_summed_197 : decode cX0_summed 197 = .ok (.i2l, 1) := by decide +kernel
theorem dX0_summed_198 : decode cX0_summed 198 = .ok (.ladd, 1) := by decide +kernel
theorem dX0_summed_199 : decode cX0_summed 199 = .ok (.lstore_n 1, 1) := by decide +kernel
theorem dX0_summed_200 : decode cX0_summed 200 = .ok (.iinc 3 1, 3) := by decide +kernel
theorem dX0_summed_203 : decode cX0_summed 203 = .ok (.goto (-23), 3) := by decide +kernel
theorem dX0_summed_206 : decode cX0_summed 206 = .ok (.lload_n 1, 1) := by decide +kernel
theorem dX0_summed_207 : decode cX0_summed 207 = .ok (.lreturn, 1) := by decide +kernel
