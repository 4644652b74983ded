theorem dX0_init_0 : decode cX0_init 0 = .ok (.aload_n 0, 1) := by decide +kernel
theorem dX0_init_1 : decode cX0_init 1 = .ok (.invokespecial 1, 3) := by decide +kernel
theorem dX0_init_4 : decode cX0_init 4 = .ok (.return_, 1) := by decide +kernel
theorem dX0_loud_0 : decode cX0_loud 0 = .ok (.aload_n 0, 1) := by decide +kernel
theorem dX0_loud_1 : decode cX0_loud 1 = .ok (.invokespecial 7, 3) := by decide +kernel
theorem dX0_loud_4 : decode cX0_loud 4 = .ok (.bipush 12, 2) := by decide +kernel
theorem dX0_loud_6 : decode cX0_loud 6 = .ok (.isub, 1) := by decide +kernel
theorem dX0_loud_7 : decode cX0_loud 7 = .ok (.ireturn, 1) := by decide +kernel
theorem dX0_soundsDown_0 : decode cX0_soundsDown 0 = .ok (.iconst 1, 1) := by decide +kernel
theorem dX0_soundsDown_1 : decode cX0_soundsDown 1 = .ok (.ireturn, 1) := by decide +kernel
theorem dX1_init_0 : decode cX1_init 0 = .ok (.aload_n 0, 1) := by decide +kernel
theorem dX1_init_1 : decode cX1_init 1 = .ok (.invokespecial 1, 3) := by decide +kernel
theorem dX1_init_4 : decode cX1_init 4 = .ok (.return_, 1) := by decide +kernel
theorem dX1_sounds_0 : decode cX1_sounds 0 = .ok (.iload_n 2, 1) := by decide +kernel
theorem dX1_sounds_1 : decode cX1_sounds 1 = .ok (.iconst 5, 1) := by decide +kernel
theorem dX1_sounds_2 : decode cX1_sounds 2 = .ok (.if_icmp .lt 17, 3) := by decide +kernel
theorem dX1_sounds_5 : decode cX1_sounds 5 = .ok (.aload_n 0, 1) := by decide +kernel
theorem dX1_sounds_6 : decode cX1_sounds 6 = .ok (.iload_n 1, 1) := by decide +kernel
theorem dX1_sounds_7 : decode cX1_sounds 7 = .ok (.iload_n 2, 1) := by decide +kernel
theorem dX1_sounds_8 : decode cX1_sounds 8 = .ok (.iload_n 3, 1) := by decide +kernel
theorem dX1_sounds_9 : decode cX1_sounds 9 = .ok (.invokespecial 7, 3) := by decide +kernel
theorem dX1_sounds_12 : decode cX1_sounds 12 = .ok (.ifCond .eq 7, 3) := by decide +kernel
theorem dX1_sounds_15 : decode cX1_sounds 15 = .ok (.iconst 1, 1) := by decide +kernel
theorem dX1_sounds_16 : decode cX1_sounds 16 = .ok (.goto 4, 3) := by decide +kernel
theorem dX1_sounds_19 : decode cX1_sounds 19 = .ok (.iconst 0, 1) := by decide +kernel
theorem dX1_sounds_20 : decode cX1_sounds 20 = .ok (.ireturn, 1) := by decide +kernel
theorem dX2_init_0 : decode cX2_init 0 = .ok (.aload_n 0, 1) := by decide +kernel
theorem dX2_init_1 : decode cX2_init 1 = .ok (.invokespecial 3, 3) := by decide +kernel
theorem dX2_init_4 : decode cX2_init 4 = .ok (.aload_n 0, 1) := by decide +kernel
theorem dX2_init_5 : decode cX2_init 5 = .ok (.bipush 64, 2) := by decide +kernel
theorem dX2_init_7 : decode cX2_init 7 = .ok (.newarray .int, 2) := by decide +kernel
theorem dX2_init_9 : decode cX2_init 9 = .ok (.putfield 9, 3) := by decide +kernel
theorem dX2_init_12 : decode cX2_init 12 = .ok (.aload_n 0, 1) := by decide +kernel
theorem dX2_init_13 : decode cX2_init 13 = .ok (.bipush 64, 2) := by decide +kernel
theorem dX2_init_15 : decode cX2_init 15 = .ok (.newarray .int, 2) := by decide +kernel
theorem dX2_init_17 : decode cX2_init 17 = .ok (.putfield 15, 3) := by decide +kernel
theorem dX2_init_20 : decode cX2_init 20 = .ok (.aload_n 0, 1) := by decide +kernel
theorem dX2_init_21 : decode cX2_init 21 = .ok (.bipush 6, 2) := by decide +kernel
theorem dX2_init_23 : decode cX2_init 23 = .ok (.newarray .int, 2) := by decide +kernel
theorem dX2_init_25 : decode cX2_init 25 = .ok (.putfield 18, 3) := by decide +kernel
theorem dX2_init_28 : decode cX2_init 28 = .ok (.aload_n 0, 1) := by decide +kernel
theorem dX2_init_29 : decode cX2_init 29 = .ok (.bipush 6, 2) := by decide +kernel
theorem dX2_init_31 : decode cX2_init 31 = .ok (.newarray .int, 2) := by decide +kernel
theorem dX2_init_33 : decode cX2_init 33 = .ok (.putfield 21, 3) := by decide +kernel
theorem dX2_init_36 : decode cX2_init 36 = .ok (.aload_n 0, 1) := by decide +kernel
theorem dX2_init_37 : decode cX2_init 37 = .ok (.bipush 6, 2) := by decide +kernel
theorem dX2_init_39 : decode cX2_init 39 = .ok (.newarray .int, 2) := by decide +kernel
theorem dX2_init_41 : decode cX2_init 41 = .ok (.putfield 24, 3) := by decide +kernel
theorem dX2_init_44 : decode cX2_init 44 = .ok (.aload_n 0, 1) := by decide +kernel
theorem dX2_init_45 : decode cX2_init 45 = .ok (.bipush 6, 2) := by decide +kernel
theorem dX2_init_47 : decode cX2_init 47 = .ok (.newarray .int, 2) := by decide +kernel
theorem dX2_init_49 : decode cX2_init 49 = .ok (.putfield 27, 3) := by decide +kernel
theorem dX2_init_52 : decode cX2_init 52 = .ok (.aload_n 0, 1) := by decide +kernel
theorem dX2_init_53 : decode cX2_init 53 = .ok (.new 30, 3) := by decide +kernel
theorem dX2_init_56 : decode cX2_init 56 = .ok (.dup, 1) := by decide +kernel
theorem dX2_init_57 : decode cX2_init 57 = .ok (.invokespecial 32, 3) := by decide +kernel
theorem dX2_init_60 : decode cX2_init 60 = .ok (.putfield 33, 3) := by decide +kernel
theorem dX2_init_63 : decode cX2_init 63 = .ok (.aload_n 0, 1) := by decide +kernel
theorem dX2_init_64 : decode cX2_init 64 = .ok (.bipush 8, 2) := by decide +kernel
theorem dX2_init_66 : decode cX2_init 66 = .ok (.anewarray 30, 3) := by decide +kernel
theorem dX2_init_69 : decode cX2_init 69 = .ok (.putfield 37, 3) := by decide +kernel
theorem dX2_init_72 : decode cX2_init 72 = .ok (.aload_n 0, 1) := by decide +kernel
theorem dX2_init_73 : decode cX2_init 73 = .ok (.bipush 6, 2) := by decide +kernel
theorem dX2_init_75 : decode cX2_init 75 = .ok (.anewarray 41, 3) := by decide +kernel
theorem dX2_init_78 : decode cX2_init 78 = .ok (.dup, 1) := by decide +kernel
theorem dX2_init_79 : decode cX2_init 79 = .ok (.iconst 0, 1) := by decide +kernel
theorem dX2_init_80 : decode cX2_init 80 = .ok (.new 41, 3) := by decide +kernel
theorem dX2_init_83 : decode cX2_init 83 = .ok (.dup, 1) := by decide +kernel
theorem dX2_init_84 : decode cX2_init 84 = .ok (.invokespecial 43, 3) := by decide +kernel
theorem dX2_init_87 : decode cX2_init 87 = .ok (.aastore, 1) := by decide +kernel
theorem dX2_init_88 : decode cX2_init 88 = .ok (.dup, 1) := by decide +kernel
theorem dX2_init_89 : decode cX2_init 89 = .ok (.iconst 1, 1) := by decide +kernel
theorem dX2_init_90 : decode cX2_init 90 = .ok (.new 44, 3) := by decide +kernel
theorem dX2_init_93 : decode cX2_init 93 = .ok (.dup, 1) := by decide +kernel
theorem dX2_init_94 : decode cX2_init 94 = .ok (.invokespecial 46, 3) := by decide +kernel
theorem dX2_init_97 : decode cX2_init 97 = .ok (.aastore, 1) := by decide +kernel
theorem dX2_init_98 : decode cX2_init 98 = .ok (.dup, 1) := by decide +kernel
theorem dX2_init_99 : decode cX2_init 99 = .ok (.iconst 2, 1) := by decide +kernel
theorem dX2_init_100 : decode cX2_init 100 = .ok (.new 47, 3) := by decide +kernel
theorem dX2_init_103 : decode cX2_init 103 = .ok (.dup, 1) := by decide +kernel
theorem dX2_init_104 : decode cX2_init 104 = .ok (.invokespecial 49, 3) := by decide +kernel
theorem dX2_init_107 : decode cX2_init 107 = .ok (.aastore, 1) := by decide +kernel
theorem dX2_init_108 : decode cX2_init 108 = .ok (.dup, 1) := by decide +kernel
theorem dX2_init_109 : decode cX2_init 109 = .ok (.iconst 3, 1) := by decide +kernel
theorem dX2_init_110 : decode cX2_init 110 = .ok (.new 50, 3) := by decide +kernel
theorem dX2_init_113 : decode cX2_init 113 = .ok (.dup, 1) := by decide +kernel
theorem dX2_init_114 : decode cX2_init 114 = .ok (.invokespecial 52, 3) := by decide +kernel
theorem dX2_init_117 : decode cX2_init 117 = .ok (.aastore, 1) := by decide +kernel
theorem dX2_init_118 : decode cX2_init 118 = .ok (.dup, 1) := by decide +kernel
theorem dX2_init_119 : decode cX2_init 119 = .ok (.iconst 4, 1) := by decide +kernel
theorem dX2_init_120 : decode cX2_init 120 = .ok (.new 53, 3) := by decide +kernel
theorem dX2_init_123 : decode cX2_init 123 = .ok (.dup, 1) := by decide +kernel
theorem dX2_init_124 : decode cX2_init 124 = .ok (.invokespecial 55, 3) := by decide +kernel
theorem dX2_init_127 : decode cX2_init 127 = .ok (.aastore, 1) := by decide +kernel
theorem dX2_init_128 : decode cX2_init 128 = .ok (.dup, 1) := by decide +kernel
theorem dX2_init_129 : decode cX2_init 129 = .ok (.iconst 5, 1) := by decide +kernel
theorem dX2_init_130 : decode cX2_init 130 = .ok (.new 56, 3) := by decide +kernel
theorem dX2_init_133 : decode cX2_init 133 = .ok (.dup, 1) := by decide +kernel
theorem dX2_init_134 : decode cX2_init 134 = .ok (.invokespecial 58, 3) := by decide +kernel
theorem dX2_init_137 : decode cX2_init 137 = .ok (.aastore, 1) := by decide +kernel
theorem dX2_init_138 : decode cX2_init 138 = .ok (.putfield 59, 3) := by decide +kernel
theorem dX2_init_141 : decode cX2_init 141 = .ok (.iconst 0, 1) := by decide +kernel
theorem dX2_init_142 : decode cX2_init 142 = .ok (.istore_n 1, 1) := by decide +kernel
theorem dX2_init_143 : decode cX2_init 143 = .ok (.iload_n 1, 1) := by decide +kernel
theorem dX2_init_144 : decode cX2_init 144 = .ok (.bipush 8, 2) := by decide +kernel
theorem dX2_init_146 : decode cX2_init 146 = .ok (.if_icmp .ge 22, 3) := by decide +kernel
theorem dX2_init_149 : decode cX2_init 149 = .ok (.aload_n 0, 1) := by decide +kernel
theorem dX2_init_150 : decode cX2_init 150 = .ok (.getfield 37, 3) := by decide +kernel
theorem dX2_init_153 : decode cX2_init 153 = .ok (.iload_n 1, 1) := by decide +kernel
theorem dX2_init_154 : decode cX2_init 154 = .ok (.new 30, 3) := by decide +kernel
theorem dX2_init_157 : decode cX2_init 157 = .ok (.dup, 1) := by decide +kernel
theorem dX2_init_158 : decode cX2_init 158 = .ok (.invokespecial 32, 3) := by decide +kernel
theorem dX2_init_161 : decode cX2_init 161 = .ok (.aastore, 1) := by decide +kernel
theorem dX2_init_162 : decode cX2_init 162 = .ok (.iinc 1 1, 3) := by decide +kernel
theorem dX2_init_165 : decode cX2_init 165 = .ok (.goto (-22), 3) := by decide +kernel
theorem dX2_init_168 : decode cX2_init 168 = .ok (.aload_n 0, 1) := by decide +kernel
theorem dX2_init_169 : decode cX2_init 169 = .ok (.invokevirtual 63, 3) := by decide +kernel
theorem dX2_init_172 : decode cX2_init 172 = .ok (.return_, 1) := by decide +kernel
theorem dX2_reset_0 : decode cX2_reset 0 = .ok (.iconst 0, 1) := by decide +kernel
theorem dX2_reset_1 : decode cX2_reset 1 = .ok (.istore_n 1, 1) := by decide +kernel
theorem dX2_reset_2 : decode cX2_reset 2 = .ok (.iload_n 1, 1) := by decide +kernel
theorem dX2_reset_3 : decode cX2_reset 3 = .ok (.aload_n 0, 1) := by decide +kernel
theorem dX2_reset_4 : decode cX2_reset 4 = .ok (.getfield 9, 3) := by decide +kernel
theorem dX2_reset_7 : decode cX2_reset 7 = .ok (.arraylength, 1) := by decide +kernel
theorem dX2_reset_8 : decode cX2_reset 8 = .ok (.if_icmp .ge 16, 3) := by decide +kernel
theorem dX2_reset_11 : decode cX2_reset 11 = .ok (.aload_n 0, 1) := by decide +kernel
theorem dX2_reset_12 : decode cX2_reset 12 = .ok (.getfield 9, 3) := by decide +kernel
theorem dX2_reset_15 : decode cX2_reset 15 = .ok (.iload_n 1, 1) := by decide +kernel
theorem dX2_reset_16 : decode cX2_reset 16 = .ok (.iconst (-1), 1) := by decide +kernel
theorem dX2_reset_17 : decode cX2_reset 17 = .ok (.iastore, 1) := by decide +kernel
theorem dX2_reset_18 : decode cX2_reset 18 = .ok (.iinc 1 1, 3) := by decide +kernel
theorem dX2_reset_21 : decode cX2_reset 21 = .ok (.goto (-19), 3) := by decide +kernel
theorem dX2_reset_24 : decode cX2_reset 24 = .ok (.aload_n 0, 1) := by decide +kernel
theorem dX2_reset_25 : decode cX2_reset 25 = .ok (.iconst 0, 1) := by decide +kernel
theorem dX2_reset_26 : decode cX2_reset 26 = .ok (.putfield 66, 3) := by decide +kernel
theorem dX2_reset_29 : decode cX2_reset 29 = .ok (.aload_n 0, 1) := by decide +kernel
theorem dX2_reset_30 : decode cX2_reset 30 = .ok (.iconst 0, 1) := by decide +kernel
theorem dX2_reset_31 : decode cX2_reset 31 = .ok (.putfield 70, 3) := by decide +kernel
theorem dX2_reset_34 : decode cX2_reset 34 = .ok (.aload_n 0, 1) := by decide +kernel
theorem dX2_reset_35 : decode cX2_reset 35 = .ok (.iconst 0, 1) := by decide +kernel
theorem dX2_reset_36 : decode cX2_reset 36 = .ok (.putfield 74, 3) := by decide +kernel
theorem dX2_reset_39 : decode cX2_reset 39 = .ok (.aload_n 0, 1) := by decide +kernel
theorem dX2_reset_40 : decode cX2_reset 40 = .ok (.iconst 0, 1) := by decide +kernel
theorem dX2_reset_41 : decode cX2_reset 41 = .ok (.putfield 77, 3) := by decide +kernel
theorem dX2_reset_44 : decode cX2_reset 44 = .ok (.aload_n 0, 1) := by decide +kernel
theorem dX2_reset_45 : decode cX2_reset 45 = .ok (.getfield 33, 3) := by decide +kernel
theorem dX2_reset_48 : decode cX2_reset 48 = .ok (.iconst 0, 1) := by decide +kernel
theorem dX2_reset_49 : decode cX2_reset 49 = .ok (.putfield 80, 3) := by decide +kernel
theorem dX2_reset_52 : decode cX2_reset 52 = .ok (.aload_n 0, 1) := by decide +kernel
theorem dX2_reset_53 : decode cX2_reset 53 = .ok (.getfield 33, 3) := by decide +kernel
theorem dX2_reset_56 : decode cX2_reset 56 = .ok (.iconst 0, 1) := by decide +kernel
theorem dX2_reset_57 : decode cX2_reset 57 = .ok (.putfield 83, 3) := by decide +kernel
theorem dX2_reset_60 : decode cX2_reset 60 = .ok (.aload_n 0, 1) := by decide +kernel
theorem dX2_reset_61 : decode cX2_reset 61 = .ok (.getfield 33, 3) := by decide +kernel
theorem dX2_reset_64 : decode cX2_reset 64 = .ok (.iconst 3, 1) := by decide +kernel
theorem dX2_reset_65 : decode cX2_reset 65 = .ok (.putfield 86, 3) := by decide +kernel
theorem dX2_reset_68 : decode cX2_reset 68 = .ok (.aload_n 0, 1) := by decide +kernel
theorem dX2_reset_69 : decode cX2_reset 69 = .ok (.getfield 33, 3) := by decide +kernel
theorem dX2_reset_72 : decode cX2_reset 72 = .ok (.iconst 0, 1) := by decide +kernel
theorem dX2_reset_73 : decode cX2_reset 73 = .ok (.putfield 89, 3) := by decide +kernel
theorem dX2_reset_76 : decode cX2_reset 76 = .ok (.return_, 1) := by decide +kernel
theorem dX2_copyFrom_0 : decode cX2_copyFrom 0 = .ok (.aload_n 1, 1) := by decide +kernel
theorem dX2_copyFrom_1 : decode cX2_copyFrom 1 = .ok (.getfield 9, 3) := by decide +kernel
theorem dX2_copyFrom_4 : decode cX2_copyFrom 4 = .ok (.iconst 0, 1) := by decide +kernel
theorem dX2_copyFrom_5 : decode cX2_copyFrom 5 = .ok (.aload_n 0, 1) := by decide +kernel
theorem dX2_copyFrom_6 : decode cX2_copyFrom 6 = .ok (.getfield 9, 3) := by decide +kernel
theorem dX2_copyFrom_9 : decode cX2_copyFrom 9 = .ok (.iconst 0, 1) := by decide +kernel
theorem dX2_copyFrom_10 : decode cX2_copyFrom 10 = .ok (.aload_n 0, 1) := by decide +kernel
theorem dX2_copyFrom_11 : decode cX2_copyFrom 11 = .ok (.getfield 9, 3) := by decide +kernel
theorem dX2_copyFrom_14 : decode cX2_copyFrom 14 = .ok (.arraylength, 1) := by decide +kernel
theorem dX2_copyFrom_15 : decode cX2_copyFrom 15 = .ok (.invokestatic 92, 3) := by decide +kernel
theorem dX2_copyFrom_18 : decode cX2_copyFrom 18 = .ok (.aload_n 1, 1) := by decide +kernel
theorem dX2_copyFrom_19 : decode cX2_copyFrom 19 = .ok (.getfield 15, 3) := by decide +kernel
theorem dX2_copyFrom_22 : decode cX2_copyFrom 22 = .ok (.iconst 0, 1) := by decide +kernel
theorem dX2_copyFrom_23 : decode cX2_copyFrom 23 = .ok (.aload_n 0, 1) := by decide +kernel
theorem dX2_copyFrom_24 : decode cX2_copyFrom 24 = .ok (.getfield 15, 3) := by decide +kernel
theorem dX2_copyFrom_27 : decode cX2_copyFrom 27 = .ok (.iconst 0, 1) := by decide +kernel
theorem dX2_copyFrom_28 : decode cX2_copyFrom 28 = .ok (.aload_n 0, 1) := by decide +kernel
theorem dX2_copyFrom_29 : decode cX2_copyFrom 29 = .ok (.getfield 15, 3) := by decide +kernel
theorem dX2_copyFrom_32 : decode cX2_copyFrom 32 = .ok (.arraylength, 1) := by decide +kernel
theorem dX2_copyFrom_33 : decode cX2_copyFrom 33 = .ok (.invokestatic 92, 3) := by decide +kernel
theorem dX2_copyFrom_36 : decode cX2_copyFrom 36 = .ok (.aload_n 1, 1) := by decide +kernel
theorem dX2_copyFrom_37 : decode cX2_copyFrom 37 = .ok (.getfield 18, 3) := by decide +kernel
theorem dX2_copyFrom_40 : decode cX2_copyFrom 40 = .ok (.iconst 0, 1) := by decide +kernel
theorem dX2_copyFrom_41 : decode cX2_copyFrom 41 = .ok (.aload_n 0, 1) := by decide +kernel
theorem dX2_copyFrom_42 : decode cX2_copyFrom 42 = .ok (.getfield 18, 3) := by decide +kernel
theorem dX2_copyFrom_45 : decode cX2_copyFrom 45 = .ok (.iconst 0, 1) := by decide +kernel
theorem dX2_copyFrom_46 : decode cX2_copyFrom 46 = .ok (.bipush 6, 2) := by decide +kernel
theorem dX2_copyFrom_48 : decode cX2_copyFrom 48 = .ok (.invokestatic 92, 3) := by decide +kernel
theorem dX2_copyFrom_51 : decode cX2_copyFrom 51 = .ok (.aload_n 1, 1) := by decide +kernel
theorem dX2_copyFrom_52 : decode cX2_copyFrom 52 = .ok (.getfield 21, 3) := by decide +kernel
theorem dX2_copyFrom_55 : decode cX2_copyFrom 55 = .ok (.iconst 0, 1) := by decide +kernel
theorem dX2_copyFrom_56 : decode cX2_copyFrom 56 = .ok (.aload_n 0, 1) := by decide +kernel
theorem dX2_copyFrom_57 : decode cX2_copyFrom 57 = .ok (.getfield 21, 3) := by decide +kernel
theorem dX2_copyFrom_60 : decode cX2_copyFrom 60 = .ok (.iconst 0, 1) := by decide +kernel
theorem dX2_copyFrom_61 : decode cX2_copyFrom 61 = .ok (.bipush 6, 2) := by decide +kernel
theorem dX2_copyFrom_63 : decode cX2_copyFrom 63 = .ok (.invokestatic 92, 3) := by decide +kernel
theorem dX2_copyFrom_66 : decode cX2_copyFrom 66 = .ok (.aload_n 1, 1) := by decide +kernel
theorem dX2_copyFrom_67 : decode cX2_copyFrom 67 = .ok (.getfield 24, 3) := by decide +kernel
theorem dX2_copyFrom_70 : decode cX2_copyFrom 70 = .ok (.iconst 0, 1) := by decide +kernel
theorem dX2_copyFrom_71 : decode cX2_copyFrom 71 = .ok (.aload_n 0, 1) := by decide +kernel
theorem dX2_copyFrom_72 : decode cX2_copyFrom 72 = .ok (.getfield 24, 3) := by decide +kernel
theorem dX2_copyFrom_75 : decode cX2_copyFrom 75 = .ok (.iconst 0, 1) := by decide +kernel
theorem dX2_copyFrom_76 : decode cX2_copyFrom 76 = .ok (.bipush 6, 2) := by decide +kernel
theorem dX2_copyFrom_78 : decode cX2_copyFrom 78 = .ok (.invokestatic 92, 3) := by decide +kernel
theorem dX2_copyFrom_81 : decode cX2_copyFrom 81 = .ok (.aload_n 1, 1) := by decide +kernel
theorem dX2_copyFrom_82 : decode cX2_copyFrom 82 = .ok (.getfield 27, 3) := by decide +kernel
theorem dX2_copyFrom_85 : decode cX2_copyFrom 85 = .ok (.iconst 0, 1) := by decide +kernel
theorem dX2_copyFrom_86 : decode cX2_copyFrom 86 = .ok (.aload_n 0, 1) := by decide +kernel
theorem dX2_copyFrom_87 : decode cX2_copyFrom 87 = .ok (.getfield 27, 3) := by decide +kernel
theorem dX2_copyFrom_90 : decode cX2_copyFrom 90 = .ok (.iconst 0, 1) := by decide +kernel
theorem dX2_copyFrom_91 : decode cX2_copyFrom 91 = .ok (.bipush 6, 2) := by decide +kernel
theorem dX2_copyFrom_93 : decode cX2_copyFrom 93 = .ok (.invokestatic 92, 3) := by decide +kernel
theorem dX2_copyFrom_96 : decode cX2_copyFrom 96 = .ok (.aload_n 0, 1) := by decide +kernel
theorem dX2_copyFrom_97 : decode cX2_copyFrom 97 = .ok (.getfield 33, 3) := by decide +kernel
theorem dX2_copyFrom_100 : decode cX2_copyFrom 100 = .ok (.aload_n 1, 1) := by decide +kernel
theorem dX2_copyFrom_101 : decode cX2_copyFrom 101 = .ok (.getfield 33, 3) := by decide +kernel
theorem dX2_copyFrom_104 : decode cX2_copyFrom 104 = .ok (.invokevirtual 98, 3) := by decide +kernel
theorem dX2_copyFrom_107 : decode cX2_copyFrom 107 = .ok (.iconst 0, 1) := by decide +kernel
theorem dX2_copyFrom_108 : decode cX2_copyFrom 108 = .ok (.istore_n 2, 1) := by decide +kernel
theorem dX2_copyFrom_109 : decode cX2_copyFrom 109 = .ok (.iload_n 2, 1) := by decide +kernel
theorem dX2_copyFrom_110 : decode cX2_copyFrom 110 = .ok (.bipush 8, 2) := by decide +kernel
theorem dX2_copyFrom_112 : decode cX2_copyFrom 112 = .ok (.if_icmp .ge 24, 3) := by decide +kernel
theorem dX2_copyFrom_115 : decode cX2_copyFrom 115 = .ok (.aload_n 0, 1) := by decide +kernel
theorem dX2_copyFrom_116 : decode cX2_copyFrom 116 = .ok (.getfield 37, 3) := by decide +kernel
theorem dX2_copyFrom_119 : decode cX2_copyFrom 119 = .ok (.iload_n 2, 1) := by decide +kernel
theorem dX2_copyFrom_120 : decode cX2_copyFrom 120 = .ok (.aaload, 1) := by decide +kernel
theorem dX2_copyFrom_121 : decode cX2_copyFrom 121 = .ok (.aload_n 1, 1) := by decide +kernel
theorem dX2_copyFrom_122 : decode cX2_copyFrom 122 = .ok (.getfield 37, 3) := by decide +kernel
theorem dX2_copyFrom_125 : decode cX2_copyFrom 125 = .ok (.iload_n 2, 1) := by decide +kernel
theorem dX2_copyFrom_126 : decode cX2_copyFrom 126 = .ok (.aaload, 1) := by decide +kernel
theorem dX2_copyFrom_127 : decode cX2_copyFrom 127 = .ok (.invokevirtual 98, 3) := by decide +kernel
theorem dX2_copyFrom_130 : decode cX2_copyFrom 130 = .ok (.iinc 2 1, 3) := by decide +kernel
theorem dX2_copyFrom_133 : decode cX2_copyFrom 133 = .ok (.goto (-24), 3) := by decide +kernel
theorem dX2_copyFrom_136 : decode cX2_copyFrom 136 = .ok (.aload_n 0, 1) := by decide +kernel
theorem dX2_copyFrom_137 : decode cX2_copyFrom 137 = .ok (.aload_n 1, 1) := by decide +kernel
theorem dX2_copyFrom_138 : decode cX2_copyFrom 138 = .ok (.getfield 66, 3) := by decide +kernel
theorem dX2_copyFrom_141 : decode cX2_copyFrom 141 = .ok (.putfield 66, 3) := by decide +kernel
theorem dX2_copyFrom_144 : decode cX2_copyFrom 144 = .ok (.aload_n 0, 1) := by decide +kernel
theorem dX2_copyFrom_145 : decode cX2_copyFrom 145 = .ok (.aload_n 1, 1) := by decide +kernel
theorem dX2_copyFrom_146 : decode cX2_copyFrom 146 = .ok (.getfield 70, 3) := by decide +kernel
theorem dX2_copyFrom_149 : decode cX2_copyFrom 149 = .ok (.putfield 70, 3) := by decide +kernel
theorem dX2_copyFrom_152 : decode cX2_copyFrom 152 = .ok (.aload_n 0, 1) := by decide +kernel
theorem dX2_copyFrom_153 : decode cX2_copyFrom 153 = .ok (.aload_n 1, 1) := by decide +kernel
theorem dX2_copyFrom_154 : decode cX2_copyFrom 154 = .ok (.getfield 74, 3) := by decide +kernel
theorem dX2_copyFrom_157 : decode cX2_copyFrom 157 = .ok (.putfield 74, 3) := by decide +kernel
theorem dX2_copyFrom_160 : decode cX2_copyFrom 160 = .ok (.aload_n 0, 1) := by decide +kernel
theorem dX2_copyFrom_161 : decode cX2_copyFrom 161 = .ok (.aload_n 1, 1) := by decide +kernel
theorem dX2_copyFrom_162 : decode cX2_copyFrom 162 = .ok (.getfield 77, 3) := by decide +kernel
theorem dX2_copyFrom_165 : decode cX2_copyFrom 165 = .ok (.putfield 77, 3) := by decide +kernel
theorem dX2_copyFrom_168 : decode cX2_copyFrom 168 = .ok (.return_, 1) := by decide +kernel
theorem dX2_doorBetween_0 : decode cX2_doorBetween 0 = .ok (.aload_n 0, 1) := by decide +kernel
theorem dX2_doorBetween_1 : decode cX2_doorBetween 1 = .ok (.getfield 9, 3) := by decide +kernel
theorem dX2_doorBetween_4 : decode cX2_doorBetween 4 = .ok (.iload_n 1, 1) := by decide +kernel
theorem dX2_doorBetween_5 : decode cX2_doorBetween 5 = .ok (.bipush 8, 2) := by decide +kernel
theorem dX2_doorBetween_7 : decode cX2_doorBetween 7 = .ok (.imul, 1) := by decide +kernel
theorem dX2_doorBetween_8 : decode cX2_doorBetween 8 = .ok (.iload_n 2, 1) := by decide +kernel
theorem dX2_doorBetween_9 : decode cX2_doorBetween 9 = .ok (.iadd, 1) := by decide +kernel
theorem dX2_doorBetween_10 : decode cX2_doorBetween 10 = .ok (.iaload, 1) := by decide +kernel
theorem dX2_doorBetween_11 : decode cX2_doorBetween 11 = .ok (.ireturn, 1) := by decide +kernel
theorem dX2_setDoor_0 : decode cX2_setDoor 0 = .ok (.aload_n 0, 1) := by decide +kernel
theorem dX2_setDoor_1 : decode cX2_setDoor 1 = .ok (.getfield 9, 3) := by decide +kernel
theorem dX2_setDoor_4 : decode cX2_setDoor 4 = .ok (.iload_n 1, 1) := by decide +kernel
theorem dX2_setDoor_5 : decode cX2_setDoor 5 = .ok (.bipush 8, 2) := by decide +kernel
theorem dX2_setDoor_7 : decode cX2_setDoor 7 = .ok (.imul, 1) := by decide +kernel
theorem dX2_setDoor_8 : decode cX2_setDoor 8 = .ok (.iload_n 2, 1) := by decide +kernel
theorem dX2_setDoor_9 : decode cX2_setDoor 9 = .ok (.iadd, 1) := by decide +kernel
theorem dX2_setDoor_10 : decode cX2_setDoor 10 = .ok (.iload_n 3, 1) := by decide +kernel
theorem dX2_setDoor_11 : decode cX2_setDoor 11 = .ok (.iastore, 1) := by decide +kernel
theorem dX2_setDoor_12 : decode cX2_setDoor 12 = .ok (.aload_n 0, 1) := by decide +kernel
theorem dX2_setDoor_13 : decode cX2_setDoor 13 = .ok (.getfield 9, 3) := by decide +kernel
theorem dX2_setDoor_16 : decode cX2_setDoor 16 = .ok (.iload_n 2, 1) := by decide +kernel
theorem dX2_setDoor_17 : decode cX2_setDoor 17 = .ok (.bipush 8, 2) := by decide +kernel
theorem dX2_setDoor_19 : decode cX2_setDoor 19 = .ok (.imul, 1) := by decide +kernel
theorem dX2_setDoor_20 : decode cX2_setDoor 20 = .ok (.iload_n 1, 1) := by decide +kernel
theorem dX2_setDoor_21 : decode cX2_setDoor 21 = .ok (.iadd, 1) := by decide +kernel
theorem dX2_setDoor_22 : decode cX2_setDoor 22 = .ok (.iload_n 3, 1) := by decide +kernel
theorem dX2_setDoor_23 : decode cX2_setDoor 23 = .ok (.iastore, 1) := by decide +kernel
theorem dX2_setDoor_24 : decode cX2_setDoor 24 = .ok (.aload_n 0, 1) := by decide +kernel
theorem dX2_setDoor_25 : decode cX2_setDoor 25 = .ok (.iconst 0, 1) := by decide +kernel
theorem dX2_setDoor_26 : decode cX2_setDoor 26 = .ok (.putfield 66, 3) := by decide +kernel
theorem dX2_setDoor_29 : decode cX2_setDoor 29 = .ok (.return_, 1) := by decide +kernel
theorem dX2_addAlarm_0 : decode cX2_addAlarm 0 = .ok (.aload_n 0, 1) := by decide +kernel
theorem dX2_addAlarm_1 : decode cX2_addAlarm 1 = .ok (.getfield 18, 3) := by decide +kernel
theorem dX2_addAlarm_4 : decode cX2_addAlarm 4 = .ok (.aload_n 0, 1) := by decide +kernel
theorem dX2_addAlarm_5 : decode cX2_addAlarm 5 = .ok (.getfield 70, 3) := by decide +kernel
theorem dX2_addAlarm_8 : decode cX2_addAlarm 8 = .ok (.iload_n 1, 1) := by decide +kernel
theorem dX2_addAlarm_9 : decode cX2_addAlarm 9 = .ok (.iastore, 1) := by decide +kernel
theorem dX2_addAlarm_10 : decode cX2_addAlarm 10 = .ok (.aload_n 0, 1) := by decide +kernel
theorem dX2_addAlarm_11 : decode cX2_addAlarm 11 = .ok (.getfield 21, 3) := by decide +kernel
theorem dX2_addAlarm_14 : decode cX2_addAlarm 14 = .ok (.aload_n 0, 1) := by decide +kernel
theorem dX2_addAlarm_15 : decode cX2_addAlarm 15 = .ok (.getfield 70, 3) := by decide +kernel
theorem dX2_addAlarm_18 : decode cX2_addAlarm 18 = .ok (.iload_n 2, 1) := by decide +kernel
theorem dX2_addAlarm_19 : decode cX2_addAlarm 19 = .ok (.iastore, 1) := by decide +kernel
theorem dX2_addAlarm_20 : decode cX2_addAlarm 20 = .ok (.aload_n 0, 1) := by decide +kernel
theorem dX2_addAlarm_21 : decode cX2_addAlarm 21 = .ok (.getfield 33, 3) := by decide +kernel
theorem dX2_addAlarm_24 : decode cX2_addAlarm 24 = .ok (.getfield 102, 3) := by decide +kernel
theorem dX2_addAlarm_27 : decode cX2_addAlarm 27 = .ok (.aload_n 0, 1) := by decide +kernel
theorem dX2_addAlarm_28 : decode cX2_addAlarm 28 = .ok (.getfield 70, 3) := by decide +kernel
theorem dX2_addAlarm_31 : decode cX2_addAlarm 31 = .ok (.iload_n 3, 1) := by decide +kernel
theorem dX2_addAlarm_32 : decode cX2_addAlarm 32 = .ok (.iastore, 1) := by decide +kernel
theorem dX2_addAlarm_33 : decode cX2_addAlarm 33 = .ok (.aload_n 0, 1) := by decide +kernel
theorem dX2_addAlarm_34 : decode cX2_addAlarm 34 = .ok (.dup, 1) := by decide +kernel
theorem dX2_addAlarm_35 : decode cX2_addAlarm 35 = .ok (.getfield 70, 3) := by decide +kernel
theorem dX2_addAlarm_38 : decode cX2_addAlarm 38 = .ok (.iconst 1, 1) := by decide +kernel
theorem dX2_addAlarm_39 : decode cX2_addAlarm 39 = .ok (.iadd, 1) := by decide +kernel
theorem dX2_addAlarm_40 : decode cX2_addAlarm 40 = .ok (.putfield 70, 3) := by decide +kernel
theorem dX2_addAlarm_43 : decode cX2_addAlarm 43 = .ok (.aload_n 0, 1) := by decide +kernel
theorem dX2_addAlarm_44 : decode cX2_addAlarm 44 = .ok (.iconst 0, 1) := by decide +kernel
theorem dX2_addAlarm_45 : decode cX2_addAlarm 45 = .ok (.putfield 77, 3) := by decide +kernel
theorem dX2_addAlarm_48 : decode cX2_addAlarm 48 = .ok (.return_, 1) := by decide +kernel
theorem dX2_addNote_0 : decode cX2_addNote 0 = .ok (.aload_n 0, 1) := by decide +kernel
theorem dX2_addNote_1 : decode cX2_addNote 1 = .ok (.getfield 24, 3) := by decide +kernel
theorem dX2_addNote_4 : decode cX2_addNote 4 = .ok (.aload_n 0, 1) := by decide +kernel
theorem dX2_addNote_5 : decode cX2_addNote 5 = .ok (.getfield 74, 3) := by decide +kernel
theorem dX2_addNote_8 : decode cX2_addNote 8 = .ok (.iload_n 1, 1) := by decide +kernel
theorem dX2_addNote_9 : decode cX2_addNote 9 = .ok (.iastore, 1) := by decide +kernel
theorem dX2_addNote_10 : decode cX2_addNote 10 = .ok (.aload_n 0, 1) := by decide +kernel
theorem dX2_addNote_11 : decode cX2_addNote 11 = .ok (.getfield 27, 3) := by decide +kernel
theorem dX2_addNote_14 : decode cX2_addNote 14 = .ok (.aload_n 0, 1) := by decide +kernel
theorem dX2_addNote_15 : decode cX2_addNote 15 = .ok (.getfield 74, 3) := by decide +kernel
theorem dX2_addNote_18 : decode cX2_addNote 18 = .ok (.iload_n 2, 1) := by decide +kernel
theorem dX2_addNote_19 : decode cX2_addNote 19 = .ok (.iastore, 1) := by decide +kernel
theorem dX2_addNote_20 : decode cX2_addNote 20 = .ok (.aload_n 0, 1) := by decide +kernel
theorem dX2_addNote_21 : decode cX2_addNote 21 = .ok (.dup, 1) := by decide +kernel
theorem dX2_addNote_22 : decode cX2_addNote 22 = .ok (.getfield 74, 3) := by decide +kernel
theorem dX2_addNote_25 : decode cX2_addNote 25 = .ok (.iconst 1, 1) := by decide +kernel
theorem dX2_addNote_26 : decode cX2_addNote 26 = .ok (.iadd, 1) := by decide +kernel
theorem dX2_addNote_27 : decode cX2_addNote 27 = .ok (.putfield 74, 3) := by decide +kernel
theorem dX2_addNote_30 : decode cX2_addNote 30 = .ok (.return_, 1) := by decide +kernel
theorem dX2_remember_0 : decode cX2_remember 0 = .ok (.aload_n 0, 1) := by decide +kernel
theorem dX2_remember_1 : decode cX2_remember 1 = .ok (.getfield 77, 3) := by decide +kernel
theorem dX2_remember_4 : decode cX2_remember 4 = .ok (.bipush 8, 2) := by decide +kernel
theorem dX2_remember_6 : decode cX2_remember 6 = .ok (.if_icmp .lt 52, 3) := by decide +kernel
theorem dX2_remember_9 : decode cX2_remember 9 = .ok (.aload_n 0, 1) := by decide +kernel
theorem dX2_remember_10 : decode cX2_remember 10 = .ok (.getfield 37, 3) := by decide +kernel
theorem dX2_remember_13 : decode cX2_remember 13 = .ok (.iconst 0, 1) := by decide +kernel
theorem dX2_remember_14 : decode cX2_remember 14 = .ok (.aaload, 1) := by decide +kernel
theorem dX2_remember_15 : decode cX2_remember 15 = .ok (.astore_n 1, 1) := by decide +kernel
theorem dX2_remember_16 : decode cX2_remember 16 = .ok (.iconst 1, 1) := by decide +kernel
theorem dX2_remember_17 : decode cX2_remember 17 = .ok (.istore_n 2, 1) := by decide +kernel
theorem dX2_remember_18 : decode cX2_remember 18 = .ok (.iload_n 2, 1) := by decide +kernel
theorem dX2_remember_19 : decode cX2_remember 19 = .ok (.bipush 8, 2) := by decide +kernel
theorem dX2_remember_21 : decode cX2_remember 21 = .ok (.if_icmp .ge 23, 3) := by decide +kernel
theorem dX2_remember_24 : decode cX2_remember 24 = .ok (.aload_n 0, 1) := by decide +kernel
theorem dX2_remember_25 : decode cX2_remember 25 = .ok (.getfield 37, 3) := by decide +kernel
theorem dX2_remember_28 : decode cX2_remember 28 = .ok (.iload_n 2, 1) := by decide +kernel
theorem dX2_remember_29 : decode cX2_remember 29 = .ok (.iconst 1, 1) := by decide +kernel
theorem dX2_remember_30 : decode cX2_remember 30 = .ok (.isub, 1) := by decide +kernel
theorem dX2_remember_31 : decode cX2_remember 31 = .ok (.aload_n 0, 1) := by decide +kernel
theorem dX2_remember_32 : decode cX2_remember 32 = .ok (.getfield 37, 3) := by decide +kernel
theorem dX2_remember_35 : decode cX2_remember 35 = .ok (.iload_n 2, 1) := by decide +kernel
theorem dX2_remember_36 : decode cX2_remember 36 = .ok (.aaload, 1) := by decide +kernel
theorem dX2_remember_37 : decode cX2_remember 37 = .ok (.aastore, 1) := by decide +kernel
theorem dX2_remember_38 : decode cX2_remember 38 = .ok (.iinc 2 1, 3) := by decide +kernel
theorem dX2_remember_41 : decode cX2_remember 41 = .ok (.goto (-23), 3) := by decide +kernel
theorem dX2_remember_44 : decode cX2_remember 44 = .ok (.aload_n 0, 1) := by decide +kernel
theorem dX2_remember_45 : decode cX2_remember 45 = .ok (.getfield 37, 3) := by decide +kernel
theorem dX2_remember_48 : decode cX2_remember 48 = .ok (.bipush 7, 2) := by decide +kernel
theorem dX2_remember_50 : decode cX2_remember 50 = .ok (.aload_n 1, 1) := by decide +kernel
theorem dX2_remember_51 : decode cX2_remember 51 = .ok (.aastore, 1) := by decide +kernel
theorem dX2_remember_52 : decode cX2_remember 52 = .ok (.aload_n 0, 1) := by decide +kernel
theorem dX2_remember_53 : decode cX2_remember 53 = .ok (.bipush 7, 2) := by decide +kernel
theorem dX2_remember_55 : decode cX2_remember 55 = .ok (.putfield 77, 3) := by decide +kernel
theorem dX2_remember_58 : decode cX2_remember 58 = .ok (.aload_n 0, 1) := by decide +kernel
theorem dX2_remember_59 : decode cX2_remember 59 = .ok (.getfield 37, 3) := by decide +kernel
theorem dX2_remember_62 : decode cX2_remember 62 = .ok (.aload_n 0, 1) := by decide +kernel
theorem dX2_remember_63 : decode cX2_remember 63 = .ok (.getfield 77, 3) := by decide +kernel
theorem dX2_remember_66 : decode cX2_remember 66 = .ok (.aaload, 1) := by decide +kernel
theorem dX2_remember_67 : decode cX2_remember 67 = .ok (.aload_n 0, 1) := by decide +kernel
theorem dX2_remember_68 : decode cX2_remember 68 = .ok (.getfield 33, 3) := by decide +kernel
theorem dX2_remember_71 : decode cX2_remember 71 = .ok (.invokevirtual 98, 3) := by decide +kernel
theorem dX2_remember_74 : decode cX2_remember 74 = .ok (.aload_n 0, 1) := by decide +kernel
theorem dX2_remember_75 : decode cX2_remember 75 = .ok (.dup, 1) := by decide +kernel
theorem dX2_remember_76 : decode cX2_remember 76 = .ok (.getfield 77, 3) := by decide +kernel
theorem dX2_remember_79 : decode cX2_remember 79 = .ok (.iconst 1, 1) := by decide +kernel
theorem dX2_remember_80 : decode cX2_remember 80 = .ok (.iadd, 1) := by decide +kernel
theorem dX2_remember_81 : decode cX2_remember 81 = .ok (.putfield 77, 3) := by decide +kernel
theorem dX2_remember_84 : decode cX2_remember 84 = .ok (.return_, 1) := by decide +kernel
theorem dX2_goBack_0 : decode cX2_goBack 0 = .ok (.aload_n 0, 1) := by decide +kernel
theorem dX2_goBack_1 : decode cX2_goBack 1 = .ok (.dup, 1) := by decide +kernel
theorem dX2_goBack_2 : decode cX2_goBack 2 = .ok (.getfield 77, 3) := by decide +kernel
theorem dX2_goBack_5 : decode cX2_goBack 5 = .ok (.iconst 1, 1) := by decide +kernel
theorem dX2_goBack_6 : decode cX2_goBack 6 = .ok (.isub, 1) := by decide +kernel
theorem dX2_goBack_7 : decode cX2_goBack 7 = .ok (.putfield 77, 3) := by decide +kernel
theorem dX2_goBack_10 : decode cX2_goBack 10 = .ok (.aload_n 0, 1) := by decide +kernel
theorem dX2_goBack_11 : decode cX2_goBack 11 = .ok (.getfield 33, 3) := by decide +kernel
theorem dX2_goBack_14 : decode cX2_goBack 14 = .ok (.aload_n 0, 1) := by decide +kernel
theorem dX2_goBack_15 : decode cX2_goBack 15 = .ok (.getfield 37, 3) := by decide +kernel
theorem dX2_goBack_18 : decode cX2_goBack 18 = .ok (.aload_n 0, 1) := by decide +kernel
theorem dX2_goBack_19 : decode cX2_goBack 19 = .ok (.getfield 77, 3) := by decide +kernel
theorem dX2_goBack_22 : decode cX2_goBack 22 = .ok (.aaload, 1) := by decide +kernel
theorem dX2_goBack_23 : decode cX2_goBack 23 = .ok (.invokevirtual 98, 3) := by decide +kernel
theorem dX2_goBack_26 : decode cX2_goBack 26 = .ok (.return_, 1) := by decide +kernel
theorem dX2_pass_0 : decode cX2_pass 0 = .ok (.aload_n 0, 1) := by decide +kernel
theorem dX2_pass_1 : decode cX2_pass 1 = .ok (.getfield 33, 3) := by decide +kernel
theorem dX2_pass_4 : decode cX2_pass 4 = .ok (.sipush 9999, 3) := by decide +kernel
theorem dX2_pass_7 : decode cX2_pass 7 = .ok (.aload_n 0, 1) := by decide +kernel
theorem dX2_pass_8 : decode cX2_pass 8 = .ok (.getfield 33, 3) := by decide +kernel
theorem dX2_pass_11 : decode cX2_pass 11 = .ok (.getfield 80, 3) := by decide +kernel
theorem dX2_pass_14 : decode cX2_pass 14 = .ok (.iload_n 1, 1) := by decide +kernel
theorem dX2_pass_15 : decode cX2_pass 15 = .ok (.iadd, 1) := by decide +kernel
theorem dX2_pass_16 : decode cX2_pass 16 = .ok (.invokestatic 105, 3) := by decide +kernel
theorem dX2_pass_19 : decode cX2_pass 19 = .ok (.putfield 80, 3) := by decide +kernel
theorem dX2_pass_22 : decode cX2_pass 22 = .ok (.return_, 1) := by decide +kernel
theorem dX2_allBits_0 : decode cX2_allBits 0 = .ok (.iconst 1, 1) := by decide +kernel
theorem dX2_allBits_1 : decode cX2_allBits 1 = .ok (.aload_n 0, 1) := by decide +kernel
theorem dX2_allBits_2 : decode cX2_allBits 2 = .ok (.getfield 70, 3) := by decide +kernel
theorem dX2_allBits_5 : decode cX2_allBits 5 = .ok (.ishl, 1) := by decide +kernel
theorem dX2_allBits_6 : decode cX2_allBits 6 = .ok (.iconst 1, 1) := by decide +kernel
theorem dX2_allBits_7 : decode cX2_allBits 7 = .ok (.isub, 1) := by decide +kernel
theorem dX2_allBits_8 : decode cX2_allBits 8 = .ok (.ireturn, 1) := by decide +kernel
theorem dX2_kindOf_0 : decode cX2_kindOf 0 = .ok (.aload_n 0, 1) := by decide +kernel
theorem dX2_kindOf_1 : decode cX2_kindOf 1 = .ok (.getfield 59, 3) := by decide +kernel
theorem dX2_kindOf_4 : decode cX2_kindOf 4 = .ok (.aload_n 0, 1) := by decide +kernel
theorem dX2_kindOf_5 : decode cX2_kindOf 5 = .ok (.getfield 18, 3) := by decide +kernel
theorem dX2_kindOf_8 : decode cX2_kindOf 8 = .ok (.iload_n 1, 1) := by decide +kernel
theorem dX2_kindOf_9 : decode cX2_kindOf 9 = .ok (.iaload, 1) := by decide +kernel
theorem dX2_kindOf_10 : decode cX2_kindOf 10 = .ok (.aaload, 1) := by decide +kernel
theorem dX2_kindOf_11 : decode cX2_kindOf 11 = .ok (.areturn, 1) := by decide +kernel
theorem dX2_distanceBetween_0 : decode cX2_distanceBetween 0 = .ok (.aload_n 0, 1) := by decide +kernel
theorem dX2_distanceBetween_1 : decode cX2_distanceBetween 1 = .ok (.getfield 66, 3) := by decide +kernel
theorem dX2_distanceBetween_4 : decode cX2_distanceBetween 4 = .ok (.ifCond .ne 12, 3) := by decide +kernel
theorem dX2_distanceBetween_7 : decode cX2_distanceBetween 7 = .ok (.aload_n 0, 1) := by decide +kernel
theorem dX2_distanceBetween_8 : decode cX2_distanceBetween 8 = .ok (.invokevirtual 111, 3) := by decide +kernel
theorem dX2_distanceBetween_11 : decode cX2_distanceBetween 11 = .ok (.aload_n 0, 1) := by decide +kernel
theorem dX2_distanceBetween_12 : decode cX2_distanceBetween 12 = .ok (.iconst 1, 1) := by decide +kernel
theorem dX2_distanceBetween_13 : decode cX2_distanceBetween 13 = .ok (.putfield 66, 3) := by decide +kernel
theorem dX2_distanceBetween_16 : decode cX2_distanceBetween 16 = .ok (.aload_n 0, 1) := by decide +kernel
theorem dX2_distanceBetween_17 : decode cX2_distanceBetween 17 = .ok (.getfield 15, 3) := by decide +kernel
theorem dX2_distanceBetween_20 : decode cX2_distanceBetween 20 = .ok (.iload_n 1, 1) := by decide +kernel
theorem dX2_distanceBetween_21 : decode cX2_distanceBetween 21 = .ok (.bipush 8, 2) := by decide +kernel
theorem dX2_distanceBetween_23 : decode cX2_distanceBetween 23 = .ok (.imul, 1) := by decide +kernel
theorem dX2_distanceBetween_24 : decode cX2_distanceBetween 24 = .ok (.iload_n 2, 1) := by decide +kernel
theorem dX2_distanceBetween_25 : decode cX2_distanceBetween 25 = .ok (.iadd, 1) := by decide +kernel
theorem dX2_distanceBetween_26 : decode cX2_distanceBetween 26 = .ok (.iaload, 1) := by decide +kernel
theorem dX2_distanceBetween_27 : decode cX2_distanceBetween 27 = .ok (.ireturn, 1) := by decide +kernel
theorem dX2_measure_0 : decode cX2_measure 0 = .ok (.iconst 0, 1) := by decide +kernel
theorem dX2_measure_1 : decode cX2_measure 1 = .ok (.istore_n 1, 1) := by decide +kernel
theorem dX2_measure_2 : decode cX2_measure 2 = .ok (.iload_n 1, 1) := by decide +kernel
theorem dX2_measure_3 : decode cX2_measure 3 = .ok (.aload_n 0, 1) := by decide +kernel
theorem dX2_measure_4 : decode cX2_measure 4 = .ok (.getfield 9, 3) := by decide +kernel
theorem dX2_measure_7 : decode cX2_measure 7 = .ok (.arraylength, 1) := by decide +kernel
theorem dX2_measure_8 : decode cX2_measure 8 = .ok (.if_icmp .ge 37, 3) := by decide +kernel
theorem dX2_measure_11 : decode cX2_measure 11 = .ok (.aload_n 0, 1) := by decide +kernel
theorem dX2_measure_12 : decode cX2_measure 12 = .ok (.getfield 15, 3) := by decide +kernel
theorem dX2_measure_15 : decode cX2_measure 15 = .ok (.iload_n 1, 1) := by decide +kernel
theorem dX2_measure_16 : decode cX2_measure 16 = .ok (.aload_n 0, 1) := by decide +kernel
theorem dX2_measure_17 : decode cX2_measure 17 = .ok (.getfield 9, 3) := by decide +kernel
theorem dX2_measure_20 : decode cX2_measure 20 = .ok (.iload_n 1, 1) := by decide +kernel
theorem dX2_measure_21 : decode cX2_measure 21 = .ok (.iaload, 1) := by decide +kernel
theorem dX2_measure_22 : decode cX2_measure 22 = .ok (.iconst (-1), 1) := by decide +kernel
theorem dX2_measure_23 : decode cX2_measure 23 = .ok (.if_icmp .ne 9, 3) := by decide +kernel
theorem dX2_measure_26 : decode cX2_measure 26 = .ok (.sipush 1000, 3) := by decide +kernel
theorem dX2_measure_29 : decode cX2_measure 29 = .ok (.goto 9, 3) := by decide +kernel
theorem dX2_measure_32 : decode cX2_measure 32 = .ok (.aload_n 0, 1) := by decide +kernel
theorem dX2_measure_33 : decode cX2_measure 33 = .ok (.getfield 9, 3) := by decide +kernel
theorem dX2_measure_36 : decode cX2_measure 36 = .ok (.iload_n 1, 1) := by decide +kernel
theorem dX2_measure_37 : decode cX2_measure 37 = .ok (.iaload, 1) := by decide +kernel
theorem dX2_measure_38 : decode cX2_measure 38 = .ok (.iastore, 1) := by decide +kernel
theorem dX2_measure_39 : decode cX2_measure 39 = .ok (.iinc 1 1, 3) := by decide +kernel
theorem dX2_measure_42 : decode cX2_measure 42 = .ok (.goto (-40), 3) := by decide +kernel
theorem dX2_measure_45 : decode cX2_measure 45 = .ok (.iconst 0, 1) := by decide +kernel
theorem dX2_measure_46 : decode cX2_measure 46 = .ok (.istore_n 1, 1) := by decide +kernel
theorem dX2_measure_47 : decode cX2_measure 47 = .ok (.iload_n 1, 1) := by decide +kernel
theorem dX2_measure_48 : decode cX2_measure 48 = .ok (.bipush 8, 2) := by decide +kernel
theorem dX2_measure_50 : decode cX2_measure 50 = .ok (.if_icmp .ge 21, 3) := by decide +kernel
theorem dX2_measure_53 : decode cX2_measure 53 = .ok (.aload_n 0, 1) := by decide +kernel
theorem dX2_measure_54 : decode cX2_measure 54 = .ok (.getfield 15, 3) := by decide +kernel
theorem dX2_measure_57 : decode cX2_measure 57 = .ok (.iload_n 1, 1) := by decide +kernel
theorem dX2_measure_58 : decode cX2_measure 58 = .ok (.bipush 8, 2) := by decide +kernel
theorem dX2_measure_60 : decode cX2_measure 60 = .ok (.imul, 1) := by decide +kernel
theorem dX2_measure_61 : decode cX2_measure 61 = .ok (.iload_n 1, 1) := by decide +kernel
theorem dX2_measure_62 : decode cX2_measure 62 = .ok (.iadd, 1) := by decide +kernel
theorem dX2_measure_63 : decode cX2_measure 63 = .ok (.iconst 0, 1) := by decide +kernel
theorem dX2_measure_64 : decode cX2_measure 64 = .ok (.iastore, 1) := by decide +kernel
theorem dX2_measure_65 : decode cX2_measure 65 = .ok (.iinc 1 1, 3) := by decide +kernel
theorem dX2_measure_68 : decode cX2_measure 68 = .ok (.goto (-21), 3) := by decide +kernel
theorem dX2_measure_71 : decode cX2_measure 71 = .ok (.iconst 0, 1) := by decide +kernel
theorem dX2_measure_72 : decode cX2_measure 72 = .ok (.istore_n 1, 1) := by decide +kernel
theorem dX2_measure_73 : decode cX2_measure 73 = .ok (.iload_n 1, 1) := by decide +kernel
theorem dX2_measure_74 : decode cX2_measure 74 = .ok (.bipush 8, 2) := by decide +kernel
theorem dX2_measure_76 : decode cX2_measure 76 = .ok (.if_icmp .ge 103, 3) := by decide +kernel
theorem dX2_measure_79 : decode cX2_measure 79 = .ok (.iconst 0, 1) := by decide +kernel
theorem dX2_measure_80 : decode cX2_measure 80 = .ok (.istore_n 2, 1) := by decide +kernel
theorem dX2_measure_81 : decode cX2_measure 81 = .ok (.iload_n 2, 1) := by decide +kernel
theorem dX2_measure_82 : decode cX2_measure 82 = .ok (.bipush 8, 2) := by decide +kernel
theorem dX2_measure_84 : decode cX2_measure 84 = .ok (.if_icmp .ge 89, 3) := by decide +kernel
theorem dX2_measure_87 : decode cX2_measure 87 = .ok (.aload_n 0, 1) := by decide +kernel
theorem dX2_measure_88 : decode cX2_measure 88 = .ok (.getfield 15, 3) := by decide +kernel
theorem dX2_measure_91 : decode cX2_measure 91 = .ok (.iload_n 2, 1) := by decide +kernel
theorem dX2_measure_92 : decode cX2_measure 92 = .ok (.bipush 8, 2) := by decide +kernel
theorem dX2_measure_94 : decode cX2_measure 94 = .ok (.imul, 1) := by decide +kernel
theorem dX2_measure_95 : decode cX2_measure 95 = .ok (.iload_n 1, 1) := by decide +kernel
theorem dX2_measure_96 : decode cX2_measure 96 = .ok (.iadd, 1) := by decide +kernel
theorem dX2_measure_97 : decode cX2_measure 97 = .ok (.iaload, 1) := by decide +kernel
theorem dX2_measure_98 : decode cX2_measure 98 = .ok (.istore_n 3, 1) := by decide +kernel
theorem dX2_measure_99 : decode cX2_measure 99 = .ok (.iconst 0, 1) := by decide +kernel
theorem dX2_measure_100 : decode cX2_measure 100 = .ok (.istore 4, 2) := by decide +kernel
theorem dX2_measure_102 : decode cX2_measure 102 = .ok (.iload 4, 2) := by decide +kernel
theorem dX2_measure_104 : decode cX2_measure 104 = .ok (.bipush 8, 2) := by decide +kernel
theorem dX2_measure_106 : decode cX2_measure 106 = .ok (.if_icmp .ge 61, 3) := by decide +kernel
theorem dX2_measure_109 : decode cX2_measure 109 = .ok (.iload_n 3, 1) := by decide +kernel
theorem dX2_measure_110 : decode cX2_measure 110 = .ok (.sipush 1000, 3) := by decide +kernel
theorem dX2_measure_113 : decode cX2_measure 113 = .ok (.if_icmp .ge 54, 3) := by decide +kernel
theorem dX2_measure_116 : decode cX2_measure 116 = .ok (.iload_n 3, 1) := by decide +kernel
theorem dX2_measure_117 : decode cX2_measure 117 = .ok (.aload_n 0, 1) := by decide +kernel
theorem dX2_measure_118 : decode cX2_measure 118 = .ok (.getfield 15, 3) := by decide +kernel
theorem dX2_measure_121 : decode cX2_measure 121 = .ok (.iload_n 1, 1) := by decide +kernel
theorem dX2_measure_122 : decode cX2_measure 122 = .ok (.bipush 8, 2) := by decide +kernel
theorem dX2_measure_124 : decode cX2_measure 124 = .ok (.imul, 1) := by decide +kernel
theorem dX2_measure_125 : decode cX2_measure 125 = .ok (.iload 4, 2) := by decide +kernel
theorem dX2_measure_127 : decode cX2_measure 127 = .ok (.iadd, 1) := by decide +kernel
theorem dX2_measure_128 : decode cX2_measure 128 = .ok (.iaload, 1) := by decide +kernel
theorem dX2_measure_129 : decode cX2_measure 129 = .ok (.iadd, 1) := by decide +kernel
theorem dX2_measure_130 : decode cX2_measure 130 = .ok (.istore 5, 2) := by decide +kernel
theorem dX2_measure_132 : decode cX2_measure 132 = .ok (.aload_n 0, 1) := by decide +kernel
theorem dX2_measure_133 : decode cX2_measure 133 = .ok (.getfield 15, 3) := by decide +kernel
theorem dX2_measure_136 : decode cX2_measure 136 = .ok (.iload_n 2, 1) := by decide +kernel
theorem dX2_measure_137 : decode cX2_measure 137 = .ok (.bipush 8, 2) := by decide +kernel
theorem dX2_measure_139 : decode cX2_measure 139 = .ok (.imul, 1) := by decide +kernel
theorem dX2_measure_140 : decode cX2_measure 140 = .ok (.iload 4, 2) := by decide +kernel
theorem dX2_measure_142 : decode cX2_measure 142 = .ok (.iadd, 1) := by decide +kernel
theorem dX2_measure_143 : decode cX2_measure 143 = .ok (.aload_n 0, 1) := by decide +kernel
theorem dX2_measure_144 : decode cX2_measure 144 = .ok (.getfield 15, 3) := by decide +kernel
theorem dX2_measure_147 : decode cX2_measure 147 = .ok (.iload_n 2, 1) := by decide +kernel
theorem dX2_measure_148 : decode cX2_measure 148 = .ok (.bipush 8, 2) := by decide +kernel
theorem dX2_measure_150 : decode cX2_measure 150 = .ok (.imul, 1) := by decide +kernel
theorem dX2_measure_151 : decode cX2_measure 151 = .ok (.iload 4, 2) := by decide +kernel
theorem dX2_measure_153 : decode cX2_measure 153 = .ok (.iadd, 1) := by decide +kernel
theorem dX2_measure_154 : decode cX2_measure 154 = .ok (.iaload, 1) := by decide +kernel
theorem dX2_measure_155 : decode cX2_measure 155 = .ok (.iload 5, 2) := by decide +kernel
theorem dX2_measure_157 : decode cX2_measure 157 = .ok (.invokestatic 105, 3) := by decide +kernel
theorem dX2_measure_160 : decode cX2_measure 160 = .ok (.iastore, 1) := by decide +kernel
theorem dX2_measure_161 : decode cX2_measure 161 = .ok (.iinc 4 1, 3) := by decide +kernel
theorem dX2_measure_164 : decode cX2_measure 164 = .ok (.goto (-62), 3) := by decide +kernel
theorem dX2_measure_167 : decode cX2_measure 167 = .ok (.iinc 2 1, 3) := by decide +kernel
theorem dX2_measure_170 : decode cX2_measure 170 = .ok (.goto (-89), 3) := by decide +kernel
theorem dX2_measure_173 : decode cX2_measure 173 = .ok (.iinc 1 1, 3) := by decide +kernel
theorem dX2_measure_176 : decode cX2_measure 176 = .ok (.goto (-103), 3) := by decide +kernel
theorem dX2_measure_179 : decode cX2_measure 179 = .ok (.return_, 1) := by decide +kernel
theorem dX2_mayBeep_0 : decode cX2_mayBeep 0 = .ok (.aload_n 0, 1) := by decide +kernel
theorem dX2_mayBeep_1 : decode cX2_mayBeep 1 = .ok (.getfield 33, 3) := by decide +kernel
theorem dX2_mayBeep_4 : decode cX2_mayBeep 4 = .ok (.getfield 89, 3) := by decide +kernel
theorem dX2_mayBeep_7 : decode cX2_mayBeep 7 = .ok (.iload_n 1, 1) := by decide +kernel
theorem dX2_mayBeep_8 : decode cX2_mayBeep 8 = .ok (.invokestatic 114, 3) := by decide +kernel
theorem dX2_mayBeep_11 : decode cX2_mayBeep 11 = .ok (.ifCond .eq 14, 3) := by decide +kernel
theorem dX2_mayBeep_14 : decode cX2_mayBeep 14 = .ok (.aload_n 0, 1) := by decide +kernel
theorem dX2_mayBeep_15 : decode cX2_mayBeep 15 = .ok (.iload_n 1, 1) := by decide +kernel
theorem dX2_mayBeep_16 : decode cX2_mayBeep 16 = .ok (.invokevirtual 118, 3) := by decide +kernel
theorem dX2_mayBeep_19 : decode cX2_mayBeep 19 = .ok (.invokevirtual 122, 3) := by decide +kernel
theorem dX2_mayBeep_22 : decode cX2_mayBeep 22 = .ok (.ifCond .eq 7, 3) := by decide +kernel
theorem dX2_mayBeep_25 : decode cX2_mayBeep 25 = .ok (.iconst 1, 1) := by decide +kernel
theorem dX2_mayBeep_26 : decode cX2_mayBeep 26 = .ok (.goto 4, 3) := by decide +kernel
theorem dX2_mayBeep_29 : decode cX2_mayBeep 29 = .ok (.iconst 0, 1) := by decide +kernel
theorem dX2_mayBeep_30 : decode cX2_mayBeep 30 = .ok (.ireturn, 1) := by decide +kernel
theorem dX2_soundsIn_0 : decode cX2_soundsIn 0 = .ok (.aload_n 0, 1) := by decide +kernel
theorem dX2_soundsIn_1 : decode cX2_soundsIn 1 = .ok (.iload_n 1, 1) := by decide +kernel
theorem dX2_soundsIn_2 : decode cX2_soundsIn 2 = .ok (.invokevirtual 126, 3) := by decide +kernel
theorem dX2_soundsIn_5 : decode cX2_soundsIn 5 = .ok (.ifCond .eq 35, 3) := by decide +kernel
theorem dX2_soundsIn_8 : decode cX2_soundsIn 8 = .ok (.aload_n 0, 1) := by decide +kernel
theorem dX2_soundsIn_9 : decode cX2_soundsIn 9 = .ok (.iload_n 1, 1) := by decide +kernel
theorem dX2_soundsIn_10 : decode cX2_soundsIn 10 = .ok (.invokevirtual 118, 3) := by decide +kernel
theorem dX2_soundsIn_13 : decode cX2_soundsIn 13 = .ok (.iload_n 2, 1) := by decide +kernel
theorem dX2_soundsIn_14 : decode cX2_soundsIn 14 = .ok (.aload_n 0, 1) := by decide +kernel
theorem dX2_soundsIn_15 : decode cX2_soundsIn 15 = .ok (.getfield 33, 3) := by decide +kernel
theorem dX2_soundsIn_18 : decode cX2_soundsIn 18 = .ok (.getfield 86, 3) := by decide +kernel
theorem dX2_soundsIn_21 : decode cX2_soundsIn 21 = .ok (.aload_n 0, 1) := by decide +kernel
theorem dX2_soundsIn_22 : decode cX2_soundsIn 22 = .ok (.getfield 33, 3) := by decide +kernel
theorem dX2_soundsIn_25 : decode cX2_soundsIn 25 = .ok (.getfield 102, 3) := by decide +kernel
theorem dX2_soundsIn_28 : decode cX2_soundsIn 28 = .ok (.iload_n 1, 1) := by decide +kernel
theorem dX2_soundsIn_29 : decode cX2_soundsIn 29 = .ok (.iaload, 1) := by decide +kernel
theorem dX2_soundsIn_30 : decode cX2_soundsIn 30 = .ok (.invokevirtual 130, 3) := by decide +kernel
theorem dX2_soundsIn_33 : decode cX2_soundsIn 33 = .ok (.ifCond .eq 7, 3) := by decide +kernel
theorem dX2_soundsIn_36 : decode cX2_soundsIn 36 = .ok (.iconst 1, 1) := by decide +kernel
theorem dX2_soundsIn_37 : decode cX2_soundsIn 37 = .ok (.goto 4, 3) := by decide +kernel
theorem dX2_soundsIn_40 : decode cX2_soundsIn 40 = .ok (.iconst 0, 1) := by decide +kernel
theorem dX2_soundsIn_41 : decode cX2_soundsIn 41 = .ok (.ireturn, 1) := by decide +kernel
theorem dX2_reaches_0 : decode cX2_reaches 0 = .ok (.aload_n 0, 1) := by decide +kernel
theorem dX2_reaches_1 : decode cX2_reaches 1 = .ok (.iload_n 2, 1) := by decide +kernel
theorem dX2_reaches_2 : decode cX2_reaches 2 = .ok (.invokevirtual 118, 3) := by decide +kernel
theorem dX2_reaches_5 : decode cX2_reaches 5 = .ok (.invokevirtual 134, 3) := by decide +kernel
theorem dX2_reaches_8 : decode cX2_reaches 8 = .ok (.aload_n 0, 1) := by decide +kernel
theorem dX2_reaches_9 : decode cX2_reaches 9 = .ok (.iload_n 1, 1) := by decide +kernel
theorem dX2_reaches_10 : decode cX2_reaches 10 = .ok (.aload_n 0, 1) := by decide +kernel
theorem dX2_reaches_11 : decode cX2_reaches 11 = .ok (.getfield 21, 3) := by decide +kernel
theorem dX2_reaches_14 : decode cX2_reaches 14 = .ok (.iload_n 2, 1) := by decide +kernel
theorem dX2_reaches_15 : decode cX2_reaches 15 = .ok (.iaload, 1) := by decide +kernel
theorem dX2_reaches_16 : decode cX2_reaches 16 = .ok (.invokevirtual 138, 3) := by decide +kernel
theorem dX2_reaches_19 : decode cX2_reaches 19 = .ok (.if_icmp .le 7, 3) := by decide +kernel
theorem dX2_reaches_22 : decode cX2_reaches 22 = .ok (.iconst 1, 1) := by decide +kernel
theorem dX2_reaches_23 : decode cX2_reaches 23 = .ok (.goto 4, 3) := by decide +kernel
theorem dX2_reaches_26 : decode cX2_reaches 26 = .ok (.iconst 0, 1) := by decide +kernel
theorem dX2_reaches_27 : decode cX2_reaches 27 = .ok (.ireturn, 1) := by decide +kernel
theorem dX2_bitsHeard_0 : decode cX2_bitsHeard 0 = .ok (.iconst 0, 1) := by decide +kernel
theorem dX2_bitsHeard_1 : decode cX2_bitsHeard 1 = .ok (.istore_n 3, 1) := by decide +kernel
theorem dX2_bitsHeard_2 : decode cX2_bitsHeard 2 = .ok (.iconst 0, 1) := by decide +kernel
theorem dX2_bitsHeard_3 : decode cX2_bitsHeard 3 = .ok (.istore 4, 2) := by decide +kernel
theorem dX2_bitsHeard_5 : decode cX2_bitsHeard 5 = .ok (.iload 4, 2) := by decide +kernel
theorem dX2_bitsHeard_7 : decode cX2_bitsHeard 7 = .ok (.aload_n 0, 1) := by decide +kernel
theorem dX2_bitsHeard_8 : decode cX2_bitsHeard 8 = .ok (.getfield 70, 3) := by decide +kernel
theorem dX2_bitsHeard_11 : decode cX2_bitsHeard 11 = .ok (.if_icmp .ge 36, 3) := by decide +kernel
theorem dX2_bitsHeard_14 : decode cX2_bitsHeard 14 = .ok (.aload_n 0, 1) := by decide +kernel
theorem dX2_bitsHeard_15 : decode cX2_bitsHeard 15 = .ok (.iload 4, 2) := by decide +kernel
theorem dX2_bitsHeard_17 : decode cX2_bitsHeard 17 = .ok (.iload_n 2, 1) := by decide +kernel
theorem dX2_bitsHeard_18 : decode cX2_bitsHeard 18 = .ok (.invokevirtual 141, 3) := by decide +kernel
theorem dX2_bitsHeard_21 : decode cX2_bitsHeard 21 = .ok (.ifCond .eq 20, 3) := by decide +kernel
theorem dX2_bitsHeard_24 : decode cX2_bitsHeard 24 = .ok (.aload_n 0, 1) := by decide +kernel
theorem dX2_bitsHeard_25 : decode cX2_bitsHeard 25 = .ok (.iload_n 1, 1) := by decide +kernel
theorem dX2_bitsHeard_26 : decode cX2_bitsHeard 26 = .ok (.iload 4, 2) := by decide +kernel
theorem dX2_bitsHeard_28 : decode cX2_bitsHeard 28 = .ok (.invokevirtual 144, 3) := by decide +kernel
theorem dX2_bitsHeard_31 : decode cX2_bitsHeard 31 = .ok (.ifCond .eq 10, 3) := by decide +kernel
theorem dX2_bitsHeard_34 : decode cX2_bitsHeard 34 = .ok (.iload_n 3, 1) := by decide +kernel
theorem dX2_bitsHeard_35 : decode cX2_bitsHeard 35 = .ok (.iconst 1, 1) := by decide +kernel
theorem dX2_bitsHeard_36 : decode cX2_bitsHeard 36 = .ok (.iload 4, 2) := by decide +kernel
theorem dX2_bitsHeard_38 : decode cX2_bitsHeard 38 = .ok (.ishl, 1) := by decide +kernel
theorem dX2_bitsHeard_39 : decode cX2_bitsHeard 39 = .ok (.ior, 1) := by decide +kernel
theorem dX2_bitsHeard_40 : decode cX2_bitsHeard 40 = .ok (.istore_n 3, 1) := by decide +kernel
theorem dX2_bitsHeard_41 : decode cX2_bitsHeard 41 = .ok (.iinc 4 1, 3) := by decide +kernel
theorem dX2_bitsHeard_44 : decode cX2_bitsHeard 44 = .ok (.goto (-39), 3) := by decide +kernel
theorem dX2_bitsHeard_47 : decode cX2_bitsHeard 47 = .ok (.iload_n 3, 1) := by decide +kernel
theorem dX2_bitsHeard_48 : decode cX2_bitsHeard 48 = .ok (.ireturn, 1) := by decide +kernel
theorem dX2_everHeard_0 : decode cX2_everHeard 0 = .ok (.iconst 0, 1) := by decide +kernel
theorem dX2_everHeard_1 : decode cX2_everHeard 1 = .ok (.istore_n 3, 1) := by decide +kernel
theorem dX2_everHeard_2 : decode cX2_everHeard 2 = .ok (.iload_n 3, 1) := by decide +kernel
theorem dX2_everHeard_3 : decode cX2_everHeard 3 = .ok (.aload_n 0, 1) := by decide +kernel
theorem dX2_everHeard_4 : decode cX2_everHeard 4 = .ok (.getfield 70, 3) := by decide +kernel
theorem dX2_everHeard_7 : decode cX2_everHeard 7 = .ok (.if_icmp .ge 49, 3) := by decide +kernel
theorem dX2_everHeard_10 : decode cX2_everHeard 10 = .ok (.aload_n 0, 1) := by decide +kernel
theorem dX2_everHeard_11 : decode cX2_everHeard 11 = .ok (.iload_n 3, 1) := by decide +kernel
theorem dX2_everHeard_12 : decode cX2_everHeard 12 = .ok (.invokevirtual 126, 3) := by decide +kernel
theorem dX2_everHeard_15 : decode cX2_everHeard 15 = .ok (.ifCond .eq 35, 3) := by decide +kernel
theorem dX2_everHeard_18 : decode cX2_everHeard 18 = .ok (.aload_n 0, 1) := by decide +kernel
theorem dX2_everHeard_19 : decode cX2_everHeard 19 = .ok (.iload_n 1, 1) := by decide +kernel
theorem dX2_everHeard_20 : decode cX2_everHeard 20 = .ok (.iload_n 3, 1) := by decide +kernel
theorem dX2_everHeard_21 : decode cX2_everHeard 21 = .ok (.invokevirtual 144, 3) := by decide +kernel
theorem dX2_everHeard_24 : decode cX2_everHeard 24 = .ok (.ifCond .eq 26, 3) := by decide +kernel
theorem dX2_everHeard_27 : decode cX2_everHeard 27 = .ok (.aload_n 0, 1) := by decide +kernel
theorem dX2_everHeard_28 : decode cX2_everHeard 28 = .ok (.iload_n 3, 1) := by decide +kernel
theorem dX2_everHeard_29 : decode cX2_everHeard 29 = .ok (.invokevirtual 118, 3) := by decide +kernel
theorem dX2_everHeard_32 : decode cX2_everHeard 32 = .ok (.iload_n 2, 1) := by decide +kernel
theorem dX2_everHeard_33 : decode cX2_everHeard 33 = .ok (.aload_n 0, 1) := by decide +kernel
theorem dX2_everHeard_34 : decode cX2_everHeard 34 = .ok (.getfield 33, 3) := by decide +kernel
theorem dX2_everHeard_37 : decode cX2_everHeard 37 = .ok (.getfield 102, 3) := by decide +kernel
theorem dX2_everHeard_40 : decode cX2_everHeard 40 = .ok (.iload_n 3, 1) := by decide +kernel
theorem dX2_everHeard_41 : decode cX2_everHeard 41 = .ok (.iaload, 1) := by decide +kernel
theorem dX2_everHeard_42 : decode cX2_everHeard 42 = .ok (.invokevirtual 147, 3) := by decide +kernel
theorem dX2_everHeard_45 : decode cX2_everHeard 45 = .ok (.ifCond .eq 5, 3) := by decide +kernel
theorem dX2_everHeard_48 : decode cX2_everHeard 48 = .ok (.iconst 1, 1) := by decide +kernel
theorem dX2_everHeard_49 : decode cX2_everHeard 49 = .ok (.ireturn, 1) := by decide +kernel
theorem dX2_everHeard_50 : decode cX2_everHeard 50 = .ok (.iinc 3 1, 3) := by decide +kernel
theorem dX2_everHeard_53 : decode cX2_everHeard 53 = .ok (.goto (-51), 3) := by decide +kernel
theorem dX2_everHeard_56 : decode cX2_everHeard 56 = .ok (.iconst 0, 1) := by decide +kernel
theorem dX2_everHeard_57 : decode cX2_everHeard 57 = .ok (.ireturn, 1) := by decide +kernel
theorem dX2_howManyReach_0 : decode cX2_howManyReach 0 = .ok (.iconst 0, 1) := by decide +kernel
theorem dX2_howManyReach_1 : decode cX2_howManyReach 1 = .ok (.istore_n 2, 1) := by decide +kernel
theorem dX2_howManyReach_2 : decode cX2_howManyReach 2 = .ok (.iconst 0, 1) := by decide +kernel
theorem dX2_howManyReach_3 : decode cX2_howManyReach 3 = .ok (.istore_n 3, 1) := by decide +kernel
theorem dX2_howManyReach_4 : decode cX2_howManyReach 4 = .ok (.iload_n 3, 1) := by decide +kernel
theorem dX2_howManyReach_5 : decode cX2_howManyReach 5 = .ok (.aload_n 0, 1) := by decide +kernel
theorem dX2_howManyReach_6 : decode cX2_howManyReach 6 = .ok (.getfield 70, 3) := by decide +kernel
theorem dX2_howManyReach_9 : decode cX2_howManyReach 9 = .ok (.if_icmp .ge 21, 3) := by decide +kernel
theorem dX2_howManyReach_12 : decode cX2_howManyReach 12 = .ok (.aload_n 0, 1) := by decide +kernel
theorem dX2_howManyReach_13 : decode cX2_howManyReach 13 = .ok (.iload_n 1, 1) := by decide +kernel
theorem dX2_howManyReach_14 : decode cX2_howManyReach 14 = .ok (.iload_n 3, 1) := by decide +kernel
theorem dX2_howManyReach_15 : decode cX2_howManyReach 15 = .ok (.invokevirtual 144, 3) := by decide +kernel
theorem dX2_howManyReach_18 : decode cX2_howManyReach 18 = .ok (.ifCond .eq 6, 3) := by decide +kernel
theorem dX2_howManyReach_21 : decode cX2_howManyReach 21 = .ok (.iinc 2 1, 3) := by decide +kernel
theorem dX2_howManyReach_24 : decode cX2_howManyReach 24 = .ok (.iinc 3 1, 3) := by decide +kernel
theorem dX2_howManyReach_27 : decode cX2_howManyReach 27 = .ok (.goto (-23), 3) := by decide +kernel
theorem dX2_howManyReach_30 : decode cX2_howManyReach 30 = .ok (.iload_n 2, 1) := by decide +kernel
theorem dX2_howManyReach_31 : decode cX2_howManyReach 31 = .ok (.ireturn, 1) := by decide +kernel
theorem dX2_entrance_0 : decode cX2_entrance 0 = .ok (.aload_n 0, 1) := by decide +kernel
theorem dX2_entrance_1 : decode cX2_entrance 1 = .ok (.iload_n 1, 1) := by decide +kernel
theorem dX2_entrance_2 : decode cX2_entrance 2 = .ok (.aload_n 0, 1) := by decide +kernel
theorem dX2_entrance_3 : decode cX2_entrance 3 = .ok (.getfield 21, 3) := by decide +kernel
theorem dX2_entrance_6 : decode cX2_entrance 6 = .ok (.iload_n 2, 1) := by decide +kernel
theorem dX2_entrance_7 : decode cX2_entrance 7 = .ok (.iaload, 1) := by decide +kernel
theorem dX2_entrance_8 : decode cX2_entrance 8 = .ok (.invokevirtual 138, 3) := by decide +kernel
theorem dX2_entrance_11 : decode cX2_entrance 11 = .ok (.istore_n 3, 1) := by decide +kernel
theorem dX2_entrance_12 : decode cX2_entrance 12 = .ok (.aload_n 0, 1) := by decide +kernel
theorem dX2_entrance_13 : decode cX2_entrance 13 = .ok (.iload_n 2, 1) := by decide +kernel
theorem dX2_entrance_14 : decode cX2_entrance 14 = .ok (.invokevirtual 118, 3) := by decide +kernel
theorem dX2_entrance_17 : decode cX2_entrance 17 = .ok (.invokevirtual 134, 3) := by decide +kernel
theorem dX2_entrance_20 : decode cX2_entrance 20 = .ok (.iload_n 3, 1) := by decide +kernel
theorem dX2_entrance_21 : decode cX2_entrance 21 = .ok (.if_icmp .gt 5, 3) := by decide +kernel
theorem dX2_entrance_24 : decode cX2_entrance 24 = .ok (.iconst (-1), 1) := by decide +kernel
theorem dX2_entrance_25 : decode cX2_entrance 25 = .ok (.ireturn, 1) := by decide +kernel
theorem dX2_entrance_26 : decode cX2_entrance 26 = .ok (.iconst 0, 1) := by decide +kernel
theorem dX2_entrance_27 : decode cX2_entrance 27 = .ok (.istore 4, 2) := by decide +kernel
theorem dX2_entrance_29 : decode cX2_entrance 29 = .ok (.iload 4, 2) := by decide +kernel
theorem dX2_entrance_31 : decode cX2_entrance 31 = .ok (.bipush 8, 2) := by decide +kernel
theorem dX2_entrance_33 : decode cX2_entrance 33 = .ok (.if_icmp .ge 50, 3) := by decide +kernel
theorem dX2_entrance_36 : decode cX2_entrance 36 = .ok (.iload_n 3, 1) := by decide +kernel
theorem dX2_entrance_37 : decode cX2_entrance 37 = .ok (.ifCond .le 46, 3) := by decide +kernel
theorem dX2_entrance_40 : decode cX2_entrance 40 = .ok (.aload_n 0, 1) := by decide +kernel
theorem dX2_entrance_41 : decode cX2_entrance 41 = .ok (.iload_n 1, 1) := by decide +kernel
theorem dX2_entrance_42 : decode cX2_entrance 42 = .ok (.iload 4, 2) := by decide +kernel
theorem dX2_entrance_44 : decode cX2_entrance 44 = .ok (.invokevirtual 150, 3) := by decide +kernel
theorem dX2_entrance_47 : decode cX2_entrance 47 = .ok (.istore 5, 2) := by decide +kernel
theorem dX2_entrance_49 : decode cX2_entrance 49 = .ok (.iload 5, 2) := by decide +kernel
theorem dX2_entrance_51 : decode cX2_entrance 51 = .ok (.iconst (-1), 1) := by decide +kernel
theorem dX2_entrance_52 : decode cX2_entrance 52 = .ok (.if_icmp .eq 25, 3) := by decide +kernel
theorem dX2_entrance_55 : decode cX2_entrance 55 = .ok (.iload 5, 2) := by decide +kernel
theorem dX2_entrance_57 : decode cX2_entrance 57 = .ok (.aload_n 0, 1) := by decide +kernel
theorem dX2_entrance_58 : decode cX2_entrance 58 = .ok (.iload 4, 2) := by decide +kernel
theorem dX2_entrance_60 : decode cX2_entrance 60 = .ok (.aload_n 0, 1) := by decide +kernel
theorem dX2_entrance_61 : decode cX2_entrance 61 = .ok (.getfield 21, 3) := by decide +kernel
theorem dX2_entrance_64 : decode cX2_entrance 64 = .ok (.iload_n 2, 1) := by decide +kernel
theorem dX2_entrance_65 : decode cX2_entrance 65 = .ok (.iaload, 1) := by decide +kernel
theorem dX2_entrance_66 : decode cX2_entrance 66 = .ok (.invokevirtual 138, 3) := by decide +kernel
theorem dX2_entrance_69 : decode cX2_entrance 69 = .ok (.iadd, 1) := by decide +kernel
theorem dX2_entrance_70 : decode cX2_entrance 70 = .ok (.iload_n 3, 1) := by decide +kernel
theorem dX2_entrance_71 : decode cX2_entrance 71 = .ok (.if_icmp .ne 6, 3) := by decide +kernel
theorem dX2_entrance_74 : decode cX2_entrance 74 = .ok (.iload 4, 2) := by decide +kernel
theorem dX2_entrance_76 : decode cX2_entrance 76 = .ok (.ireturn, 1) := by decide +kernel
theorem dX2_entrance_77 : decode cX2_entrance 77 = .ok (.iinc 4 1, 3) := by decide +kernel
theorem dX2_entrance_80 : decode cX2_entrance 80 = .ok (.goto (-51), 3) := by decide +kernel
theorem dX2_entrance_83 : decode cX2_entrance 83 = .ok (.iload_n 1, 1) := by decide +kernel
theorem dX2_entrance_84 : decode cX2_entrance 84 = .ok (.ireturn, 1) := by decide +kernel
theorem dX2_toldApart_0 : decode cX2_toldApart 0 = .ok (.aload_n 0, 1) := by decide +kernel
theorem dX2_toldApart_1 : decode cX2_toldApart 1 = .ok (.iload_n 1, 1) := by decide +kernel
theorem dX2_toldApart_2 : decode cX2_toldApart 2 = .ok (.iload_n 2, 1) := by decide +kernel
theorem dX2_toldApart_3 : decode cX2_toldApart 3 = .ok (.invokevirtual 153, 3) := by decide +kernel
theorem dX2_toldApart_6 : decode cX2_toldApart 6 = .ok (.aload_n 0, 1) := by decide +kernel
theorem dX2_toldApart_7 : decode cX2_toldApart 7 = .ok (.iload_n 1, 1) := by decide +kernel
theorem dX2_toldApart_8 : decode cX2_toldApart 8 = .ok (.iload_n 3, 1) := by decide +kernel
theorem dX2_toldApart_9 : decode cX2_toldApart 9 = .ok (.invokevirtual 153, 3) := by decide +kernel
theorem dX2_toldApart_12 : decode cX2_toldApart 12 = .ok (.if_icmp .eq 7, 3) := by decide +kernel
theorem dX2_toldApart_15 : decode cX2_toldApart 15 = .ok (.iconst 1, 1) := by decide +kernel
theorem dX2_toldApart_16 : decode cX2_toldApart 16 = .ok (.goto 4, 3) := by decide +kernel
theorem dX2_toldApart_19 : decode cX2_toldApart 19 = .ok (.iconst 0, 1) := by decide +kernel
theorem dX2_toldApart_20 : decode cX2_toldApart 20 = .ok (.ireturn, 1) := by decide +kernel
theorem dX2_bitsFitting_0 : decode cX2_bitsFitting 0 = .ok (.iconst 0, 1) := by decide +kernel
theorem dX2_bitsFitting_1 : decode cX2_bitsFitting 1 = .ok (.istore_n 1, 1) := by decide +kernel
theorem dX2_bitsFitting_2 : decode cX2_bitsFitting 2 = .ok (.iconst 0, 1) := by decide +kernel
theorem dX2_bitsFitting_3 : decode cX2_bitsFitting 3 = .ok (.istore_n 2, 1) := by decide +kernel
theorem dX2_bitsFitting_4 : decode cX2_bitsFitting 4 = .ok (.iload_n 2, 1) := by decide +kernel
theorem dX2_bitsFitting_5 : decode cX2_bitsFitting 5 = .ok (.aload_n 0, 1) := by decide +kernel
theorem dX2_bitsFitting_6 : decode cX2_bitsFitting 6 = .ok (.getfield 70, 3) := by decide +kernel
theorem dX2_bitsFitting_9 : decode cX2_bitsFitting 9 = .ok (.if_icmp .ge 23, 3) := by decide +kernel
theorem dX2_bitsFitting_12 : decode cX2_bitsFitting 12 = .ok (.aload_n 0, 1) := by decide +kernel
theorem dX2_bitsFitting_13 : decode cX2_bitsFitting 13 = .ok (.iload_n 2, 1) := by decide +kernel
theorem dX2_bitsFitting_14 : decode cX2_bitsFitting 14 = .ok (.invokevirtual 156, 3) := by decide +kernel
theorem dX2_bitsFitting_17 : decode cX2_bitsFitting 17 = .ok (.ifCond .eq 9, 3) := by decide +kernel
theorem dX2_bitsFitting_20 : decode cX2_bitsFitting 20 = .ok (.iload_n 1, 1) := by decide +kernel
theorem dX2_bitsFitting_21 : decode cX2_bitsFitting 21 = .ok (.iconst 1, 1) := by decide +kernel
theorem dX2_bitsFitting_22 : decode cX2_bitsFitting 22 = .ok (.iload_n 2, 1) := by decide +kernel
theorem dX2_bitsFitting_23 : decode cX2_bitsFitting 23 = .ok (.ishl, 1) := by decide +kernel
theorem dX2_bitsFitting_24 : decode cX2_bitsFitting 24 = .ok (.ior, 1) := by decide +kernel
theorem dX2_bitsFitting_25 : decode cX2_bitsFitting 25 = .ok (.istore_n 1, 1) := by decide +kernel
theorem dX2_bitsFitting_26 : decode cX2_bitsFitting 26 = .ok (.iinc 2 1, 3) := by decide +kernel
theorem dX2_bitsFitting_29 : decode cX2_bitsFitting 29 = .ok (.goto (-25), 3) := by decide +kernel
theorem dX2_bitsFitting_32 : decode cX2_bitsFitting 32 = .ok (.iload_n 1, 1) := by decide +kernel
theorem dX2_bitsFitting_33 : decode cX2_bitsFitting 33 = .ok (.ireturn, 1) := by decide +kernel
theorem dX2_fitsNotes_0 : decode cX2_fitsNotes 0 = .ok (.iconst 0, 1) := by decide +kernel
theorem dX2_fitsNotes_1 : decode cX2_fitsNotes 1 = .ok (.istore_n 2, 1) := by decide +kernel
theorem dX2_fitsNotes_2 : decode cX2_fitsNotes 2 = .ok (.iload_n 2, 1) := by decide +kernel
theorem dX2_fitsNotes_3 : decode cX2_fitsNotes 3 = .ok (.aload_n 0, 1) := by decide +kernel
theorem dX2_fitsNotes_4 : decode cX2_fitsNotes 4 = .ok (.getfield 74, 3) := by decide +kernel
theorem dX2_fitsNotes_7 : decode cX2_fitsNotes 7 = .ok (.if_icmp .ge 31, 3) := by decide +kernel
theorem dX2_fitsNotes_10 : decode cX2_fitsNotes 10 = .ok (.aload_n 0, 1) := by decide +kernel
theorem dX2_fitsNotes_11 : decode cX2_fitsNotes 11 = .ok (.aload_n 0, 1) := by decide +kernel
theorem dX2_fitsNotes_12 : decode cX2_fitsNotes 12 = .ok (.getfield 24, 3) := by decide +kernel
theorem dX2_fitsNotes_15 : decode cX2_fitsNotes 15 = .ok (.iload_n 2, 1) := by decide +kernel
theorem dX2_fitsNotes_16 : decode cX2_fitsNotes 16 = .ok (.iaload, 1) := by decide +kernel
theorem dX2_fitsNotes_17 : decode cX2_fitsNotes 17 = .ok (.iload_n 1, 1) := by decide +kernel
theorem dX2_fitsNotes_18 : decode cX2_fitsNotes 18 = .ok (.invokevirtual 153, 3) := by decide +kernel
theorem dX2_fitsNotes_21 : decode cX2_fitsNotes 21 = .ok (.aload_n 0, 1) := by decide +kernel
theorem dX2_fitsNotes_22 : decode cX2_fitsNotes 22 = .ok (.getfield 27, 3) := by decide +kernel
theorem dX2_fitsNotes_25 : decode cX2_fitsNotes 25 = .ok (.iload_n 2, 1) := by decide +kernel
theorem dX2_fitsNotes_26 : decode cX2_fitsNotes 26 = .ok (.iaload, 1) := by decide +kernel
theorem dX2_fitsNotes_27 : decode cX2_fitsNotes 27 = .ok (.if_icmp .eq 5, 3) := by decide +kernel
theorem dX2_fitsNotes_30 : decode cX2_fitsNotes 30 = .ok (.iconst 0, 1) := by decide +kernel
theorem dX2_fitsNotes_31 : decode cX2_fitsNotes 31 = .ok (.ireturn, 1) := by decide +kernel
theorem dX2_fitsNotes_32 : decode cX2_fitsNotes 32 = .ok (.iinc 2 1, 3) := by decide +kernel
theorem dX2_fitsNotes_35 : decode cX2_fitsNotes 35 = .ok (.goto (-33), 3) := by decide +kernel
theorem dX2_fitsNotes_38 : decode cX2_fitsNotes 38 = .ok (.iconst 1, 1) := by decide +kernel
theorem dX2_fitsNotes_39 : decode cX2_fitsNotes 39 = .ok (.ireturn, 1) := by decide +kernel
theorem dX2_mixAll_0 : decode cX2_mixAll 0 = .ok (.lload_n 1, 1) := by decide +kernel
theorem dX2_mixAll_1 : decode cX2_mixAll 1 = .ok (.lstore_n 3, 1) := by decide +kernel
theorem dX2_mixAll_2 : decode cX2_mixAll 2 = .ok (.iconst 0, 1) := by decide +kernel
theorem dX2_mixAll_3 : decode cX2_mixAll 3 = .ok (.istore 5, 2) := by decide +kernel
theorem dX2_mixAll_5 : decode cX2_mixAll 5 = .ok (.iload 5, 2) := by decide +kernel
theorem dX2_mixAll_7 : decode cX2_mixAll 7 = .ok (.bipush 8, 2) := by decide +kernel
theorem dX2_mixAll_9 : decode cX2_mixAll 9 = .ok (.if_icmp .ge 42, 3) := by decide +kernel
theorem dX2_mixAll_12 : decode cX2_mixAll 12 = .ok (.iload 5, 2) := by decide +kernel
theorem dX2_mixAll_14 : decode cX2_mixAll 14 = .ok (.iconst 1, 1) := by decide +kernel
theorem dX2_mixAll_15 : decode cX2_mixAll 15 = .ok (.iadd, 1) := by decide +kernel
theorem dX2_mixAll_16 : decode cX2_mixAll 16 = .ok (.istore 6, 2) := by decide +kernel
theorem dX2_mixAll_18 : decode cX2_mixAll 18 = .ok (.iload 6, 2) := by decide +kernel
theorem dX2_mixAll_20 : decode cX2_mixAll 20 = .ok (.bipush 8, 2) := by decide +kernel
theorem dX2_mixAll_22 : decode cX2_mixAll 22 = .ok (.if_icmp .ge 23, 3) := by decide +kernel
theorem dX2_mixAll_25 : decode cX2_mixAll 25 = .ok (.lload_n 3, 1) := by decide +kernel
theorem dX2_mixAll_26 : decode cX2_mixAll 26 = .ok (.aload_n 0, 1) := by decide +kernel
theorem dX2_mixAll_27 : decode cX2_mixAll 27 = .ok (.iload 5, 2) := by decide +kernel
theorem dX2_mixAll_29 : decode cX2_mixAll 29 = .ok (.iload 6, 2) := by decide +kernel
theorem dX2_mixAll_31 : decode cX2_mixAll 31 = .ok (.invokevirtual 150, 3) := by decide +kernel
theorem dX2_mixAll_34 : decode cX2_mixAll 34 = .ok (.i2l, 1) := by decide +kernel
theorem dX2_mixAll_35 : decode cX2_mixAll 35 = .ok (.invokestatic 159, 3) := by decide +kernel
theorem dX2_mixAll_38 : decode cX2_mixAll 38 = .ok (.lstore_n 3, 1) := by decide +kernel
theorem dX2_mixAll_39 : decode cX2_mixAll 39 = .ok (.iinc 6 1, 3) := by decide +kernel
theorem dX2_mixAll_42 : decode cX2_mixAll 42 = .ok (.goto (-24), 3) := by decide +kernel
theorem dX2_mixAll_45 : decode cX2_mixAll 45 = .ok (.iinc 5 1, 3) := by decide +kernel
theorem dX2_mixAll_48 : decode cX2_mixAll 48 = .ok (.goto (-43), 3) := by decide +kernel
theorem dX2_mixAll_51 : decode cX2_mixAll 51 = .ok (.iconst 0, 1) := by decide +kernel
theorem dX2_mixAll_52 : decode cX2_mixAll 52 = .ok (.istore 5, 2) := by decide +kernel
theorem dX2_mixAll_54 : decode cX2_mixAll 54 = .ok (.iload 5, 2) := by decide +kernel
theorem dX2_mixAll_56 : decode cX2_mixAll 56 = .ok (.aload_n 0, 1) := by decide +kernel
theorem dX2_mixAll_57 : decode cX2_mixAll 57 = .ok (.getfield 70, 3) := by decide +kernel
theorem dX2_mixAll_60 : decode cX2_mixAll 60 = .ok (.if_icmp .ge 65, 3) := by decide +kernel
theorem dX2_mixAll_63 : decode cX2_mixAll 63 = .ok (.lload_n 3, 1) := by decide +kernel
theorem dX2_mixAll_64 : decode cX2_mixAll 64 = .ok (.aload_n 0, 1) := by decide +kernel
theorem dX2_mixAll_65 : decode cX2_mixAll 65 = .ok (.getfield 18, 3) := by decide +kernel
theorem dX2_mixAll_68 : decode cX2_mixAll 68 = .ok (.iload 5, 2) := by decide +kernel
theorem dX2_mixAll_70 : decode cX2_mixAll 70 = .ok (.iaload, 1) := by decide +kernel
theorem dX2_mixAll_71 : decode cX2_mixAll 71 = .ok (.i2l, 1) := by decide +kernel
theorem dX2_mixAll_72 : decode cX2_mixAll 72 = .ok (.invokestatic 159, 3) := by decide +kernel
theorem dX2_mixAll_75 : decode cX2_mixAll 75 = .ok (.aload_n 0, 1) := by decide +kernel
theorem dX2_mixAll_76 : decode cX2_mixAll 76 = .ok (.getfield 21, 3) := by decide +kernel
theorem dX2_mixAll_79 : decode cX2_mixAll 79 = .ok (.iload 5, 2) := by decide +kernel
theorem dX2_mixAll_81 : decode cX2_mixAll 81 = .ok (.iaload, 1) := by decide +kernel
theorem dX2_mixAll_82 : decode cX2_mixAll 82 = .ok (.i2l, 1) := by decide +kernel
theorem dX2_mixAll_83 : decode cX2_mixAll 83 = .ok (.invokestatic 159, 3) := by decide +kernel
theorem dX2_mixAll_86 : decode cX2_mixAll 86 = .ok (.lstore_n 3, 1) := by decide +kernel
theorem dX2_mixAll_87 : decode cX2_mixAll 87 = .ok (.lload_n 3, 1) := by decide +kernel
theorem dX2_mixAll_88 : decode cX2_mixAll 88 = .ok (.aload_n 0, 1) := by decide +kernel
theorem dX2_mixAll_89 : decode cX2_mixAll 89 = .ok (.getfield 33, 3) := by decide +kernel
theorem dX2_mixAll_92 : decode cX2_mixAll 92 = .ok (.getfield 102, 3) := by decide +kernel
theorem dX2_mixAll_95 : decode cX2_mixAll 95 = .ok (.iload 5, 2) := by decide +kernel
theorem dX2_mixAll_97 : decode cX2_mixAll 97 = .ok (.iaload, 1) := by decide +kernel
theorem dX2_mixAll_98 : decode cX2_mixAll 98 = .ok (.i2l, 1) := by decide +kernel
theorem dX2_mixAll_99 : decode cX2_mixAll 99 = .ok (.invokestatic 159, 3) := by decide +kernel
theorem dX2_mixAll_102 : decode cX2_mixAll 102 = .ok (.aload_n 0, 1) := by decide +kernel
theorem dX2_mixAll_103 : decode cX2_mixAll 103 = .ok (.getfield 33, 3) := by decide +kernel
theorem dX2_mixAll_106 : decode cX2_mixAll 106 = .ok (.getfield 89, 3) := by decide +kernel
theorem dX2_mixAll_109 : decode cX2_mixAll 109 = .ok (.iload 5, 2) := by decide +kernel
theorem dX2_mixAll_111 : decode cX2_mixAll 111 = .ok (.ishr, 1) := by decide +kernel
theorem dX2_mixAll_112 : decode cX2_mixAll 112 = .ok (.iconst 1, 1) := by decide +kernel
theorem dX2_mixAll_113 : decode cX2_mixAll 113 = .ok (.iand, 1) := by decide +kernel
theorem dX2_mixAll_114 : decode cX2_mixAll 114 = .ok (.i2l, 1) := by decide +kernel
theorem dX2_mixAll_115 : decode cX2_mixAll 115 = .ok (.invokestatic 159, 3) := by decide +kernel
theorem dX2_mixAll_118 : decode cX2_mixAll 118 = .ok (.lstore_n 3, 1) := by decide +kernel
theorem dX2_mixAll_119 : decode cX2_mixAll 119 = .ok (.iinc 5 1, 3) := by decide +kernel
theorem dX2_mixAll_122 : decode cX2_mixAll 122 = .ok (.goto (-68), 3) := by decide +kernel
theorem dX2_mixAll_125 : decode cX2_mixAll 125 = .ok (.iconst 0, 1) := by decide +kernel
theorem dX2_mixAll_126 : decode cX2_mixAll 126 = .ok (.istore 5, 2) := by decide +kernel
theorem dX2_mixAll_128 : decode cX2_mixAll 128 = .ok (.iload 5, 2) := by decide +kernel
theorem dX2_mixAll_130 : decode cX2_mixAll 130 = .ok (.aload_n 0, 1) := by decide +kernel
theorem dX2_mixAll_131 : decode cX2_mixAll 131 = .ok (.getfield 74, 3) := by decide +kernel
theorem dX2_mixAll_134 : decode cX2_mixAll 134 = .ok (.if_icmp .ge 33, 3) := by decide +kernel
theorem dX2_mixAll_137 : decode cX2_mixAll 137 = .ok (.lload_n 3, 1) := by decide +kernel
theorem dX2_mixAll_138 : decode cX2_mixAll 138 = .ok (.aload_n 0, 1) := by decide +kernel
theorem dX2_mixAll_139 : decode cX2_mixAll 139 = .ok (.getfield 24, 3) := by decide +kernel
theorem dX2_mixAll_142 : decode cX2_mixAll 142 = .ok (.iload 5, 2) := by decide +kernel
theorem dX2_mixAll_144 : decode cX2_mixAll 144 = .ok (.iaload, 1) := by decide +kernel
theorem dX2_mixAll_145 : decode cX2_mixAll 145 = .ok (.i2l, 1) := by decide +kernel
theorem dX2_mixAll_146 : decode cX2_mixAll 146 = .ok (.invokestatic 159, 3) := by decide +kernel
theorem dX2_mixAll_149 : decode cX2_mixAll 149 = .ok (.aload_n 0, 1) := by decide +kernel
theorem dX2_mixAll_150 : decode cX2_mixAll 150 = .ok (.getfield 27, 3) := by decide +kernel
theorem dX2_mixAll_153 : decode cX2_mixAll 153 = .ok (.iload 5, 2) := by decide +kernel
theorem dX2_mixAll_155 : decode cX2_mixAll 155 = .ok (.iaload, 1) := by decide +kernel
theorem dX2_mixAll_156 : decode cX2_mixAll 156 = .ok (.i2l, 1) := by decide +kernel
theorem dX2_mixAll_157 : decode cX2_mixAll 157 = .ok (.invokestatic 159, 3) := by decide +kernel
theorem dX2_mixAll_160 : decode cX2_mixAll 160 = .ok (.lstore_n 3, 1) := by decide +kernel
theorem dX2_mixAll_161 : decode cX2_mixAll 161 = .ok (.iinc 5 1, 3) := by decide +kernel
theorem dX2_mixAll_164 : decode cX2_mixAll 164 = .ok (.goto (-36), 3) := by decide +kernel
theorem dX2_mixAll_167 : decode cX2_mixAll 167 = .ok (.lload_n 3, 1) := by decide +kernel
theorem dX2_mixAll_168 : decode cX2_mixAll 168 = .ok (.lreturn, 1) := by decide +kernel
theorem dX3_init_0 : decode cX3_init 0 = .ok (.aload_n 0, 1) := by decide +kernel
theorem dX3_init_1 : decode cX3_init 1 = .ok (.invokespecial 3, 3) := by decide +kernel
theorem dX3_init_4 : decode cX3_init 4 = .ok (.aload_n 0, 1) := by decide +kernel
theorem dX3_init_5 : decode cX3_init 5 = .ok (.bipush 6, 2) := by decide +kernel
theorem dX3_init_7 : decode cX3_init 7 = .ok (.newarray .int, 2) := by decide +kernel
theorem dX3_init_9 : decode cX3_init 9 = .ok (.putfield 9, 3) := by decide +kernel
theorem dX3_init_12 : decode cX3_init 12 = .ok (.return_, 1) := by decide +kernel
theorem dX3_copyFrom_0 : decode cX3_copyFrom 0 = .ok (.aload_n 1, 1) := by decide +kernel
theorem dX3_copyFrom_1 : decode cX3_copyFrom 1 = .ok (.getfield 9, 3) := by decide +kernel
theorem dX3_copyFrom_4 : decode cX3_copyFrom 4 = .ok (.iconst 0, 1) := by decide +kernel
theorem dX3_copyFrom_5 : decode cX3_copyFrom 5 = .ok (.aload_n 0, 1) := by decide +kernel
theorem dX3_copyFrom_6 : decode cX3_copyFrom 6 = .ok (.getfield 9, 3) := by decide +kernel
theorem dX3_copyFrom_9 : decode cX3_copyFrom 9 = .ok (.iconst 0, 1) := by decide +kernel
theorem dX3_copyFrom_10 : decode cX3_copyFrom 10 = .ok (.bipush 6, 2) := by decide +kernel
theorem dX3_copyFrom_12 : decode cX3_copyFrom 12 = .ok (.invokestatic 15, 3) := by decide +kernel
theorem dX3_copyFrom_15 : decode cX3_copyFrom 15 = .ok (.aload_n 0, 1) := by decide +kernel
theorem dX3_copyFrom_16 : decode cX3_copyFrom 16 = .ok (.aload_n 1, 1) := by decide +kernel
theorem dX3_copyFrom_17 : decode cX3_copyFrom 17 = .ok (.getfield 21, 3) := by decide +kernel
theorem dX3_copyFrom_20 : decode cX3_copyFrom 20 = .ok (.putfield 21, 3) := by decide +kernel
theorem dX3_copyFrom_23 : decode cX3_copyFrom 23 = .ok (.aload_n 0, 1) := by decide +kernel
theorem dX3_copyFrom_24 : decode cX3_copyFrom 24 = .ok (.aload_n 1, 1) := by decide +kernel
theorem dX3_copyFrom_25 : decode cX3_copyFrom 25 = .ok (.getfield 25, 3) := by decide +kernel
theorem dX3_copyFrom_28 : decode cX3_copyFrom 28 = .ok (.putfield 25, 3) := by decide +kernel
theorem dX3_copyFrom_31 : decode cX3_copyFrom 31 = .ok (.aload_n 0, 1) := by decide +kernel
theorem dX3_copyFrom_32 : decode cX3_copyFrom 32 = .ok (.aload_n 1, 1) := by decide +kernel
theorem dX3_copyFrom_33 : decode cX3_copyFrom 33 = .ok (.getfield 28, 3) := by decide +kernel
theorem dX3_copyFrom_36 : decode cX3_copyFrom 36 = .ok (.putfield 28, 3) := by decide +kernel
theorem dX3_copyFrom_39 : decode cX3_copyFrom 39 = .ok (.aload_n 0, 1) := by decide +kernel
theorem dX3_copyFrom_40 : decode cX3_copyFrom 40 = .ok (.aload_n 1, 1) := by decide +kernel
theorem dX3_copyFrom_41 : decode cX3_copyFrom 41 = .ok (.getfield 31, 3) := by decide +kernel
theorem dX3_copyFrom_44 : decode cX3_copyFrom 44 = .ok (.putfield 31, 3) := by decide +kernel
theorem dX3_copyFrom_47 : decode cX3_copyFrom 47 = .ok (.return_, 1) := by decide +kernel
theorem dX3_setDown_0 : decode cX3_setDown 0 = .ok (.aload_n 0, 1) := by decide +kernel
theorem dX3_setDown_1 : decode cX3_setDown 1 = .ok (.aload_n 0, 1) := by decide +kernel
theorem dX3_setDown_2 : decode cX3_setDown 2 = .ok (.getfield 31, 3) := by decide +kernel
theorem dX3_setDown_5 : decode cX3_setDown 5 = .ok (.iconst 1, 1) := by decide +kernel
theorem dX3_setDown_6 : decode cX3_setDown 6 = .ok (.iload_n 1, 1) := by decide +kernel
theorem dX3_setDown_7 : decode cX3_setDown 7 = .ok (.ishl, 1) := by decide +kernel
theorem dX3_setDown_8 : decode cX3_setDown 8 = .ok (.iconst (-1), 1) := by decide +kernel
theorem dX3_setDown_9 : decode cX3_setDown 9 = .ok (.ixor, 1) := by decide +kernel
theorem dX3_setDown_10 : decode cX3_setDown 10 = .ok (.iand, 1) := by decide +kernel
theorem dX3_setDown_11 : decode cX3_setDown 11 = .ok (.iload_n 2, 1) := by decide +kernel
theorem dX3_setDown_12 : decode cX3_setDown 12 = .ok (.iload_n 1, 1) := by decide +kernel
theorem dX3_setDown_13 : decode cX3_setDown 13 = .ok (.ishl, 1) := by decide +kernel
theorem dX3_setDown_14 : decode cX3_setDown 14 = .ok (.ior, 1) := by decide +kernel
theorem dX3_setDown_15 : decode cX3_setDown 15 = .ok (.putfield 31, 3) := by decide +kernel
theorem dX3_setDown_18 : decode cX3_setDown 18 = .ok (.return_, 1) := by decide +kernel
theorem dX4_init_0 : decode cX4_init 0 = .ok (.aload_n 0, 1) := by decide +kernel
theorem dX4_init_1 : decode cX4_init 1 = .ok (.invokespecial 1, 3) := by decide +kernel
theorem dX4_init_4 : decode cX4_init 4 = .ok (.return_, 1) := by decide +kernel
theorem dX4_sounds_0 : decode cX4_sounds 0 = .ok (.aload_n 0, 1) := by decide +kernel
theorem dX4_sounds_1 : decode cX4_sounds 1 = .ok (.iload_n 1, 1) := by decide +kernel
theorem dX4_sounds_2 : decode cX4_sounds 2 = .ok (.iload_n 2, 1) := by decide +kernel
theorem dX4_sounds_3 : decode cX4_sounds 3 = .ok (.iload_n 3, 1) := by decide +kernel
theorem dX4_sounds_4 : decode cX4_sounds 4 = .ok (.bipush 10, 2) := by decide +kernel
theorem dX4_sounds_6 : decode cX4_sounds 6 = .ok (.isub, 1) := by decide +kernel
theorem dX4_sounds_7 : decode cX4_sounds 7 = .ok (.invokespecial 7, 3) := by decide +kernel
theorem dX4_sounds_10 : decode cX4_sounds 10 = .ok (.ireturn, 1) := by decide +kernel
theorem dX5_init_0 : decode cX5_init 0 = .ok (.aload_n 0, 1) := by decide +kernel
theorem dX5_init_1 : decode cX5_init 1 = .ok (.invokespecial 1, 3) := by decide +kernel
theorem dX5_init_4 : decode cX5_init 4 = .ok (.return_, 1) := by decide +kernel
theorem dX5_sounds_0 : decode cX5_sounds 0 = .ok (.iload_n 1, 1) := by decide +kernel
theorem dX5_sounds_1 : decode cX5_sounds 1 = .ok (.bipush 30, 2) := by decide +kernel
theorem dX5_sounds_3 : decode cX5_sounds 3 = .ok (.irem, 1) := by decide +kernel
theorem dX5_sounds_4 : decode cX5_sounds 4 = .ok (.bipush 7, 2) := by decide +kernel
theorem dX5_sounds_6 : decode cX5_sounds 6 = .ok (.if_icmp .ne 7, 3) := by decide +kernel
theorem dX5_sounds_9 : decode cX5_sounds 9 = .ok (.iconst 1, 1) := by decide +kernel
theorem dX5_sounds_10 : decode cX5_sounds 10 = .ok (.goto 4, 3) := by decide +kernel
theorem dX5_sounds_13 : decode cX5_sounds 13 = .ok (.iconst 0, 1) := by decide +kernel
theorem dX5_sounds_14 : decode cX5_sounds 14 = .ok (.ireturn, 1) := by decide +kernel
theorem dX5_loud_0 : decode cX5_loud 0 = .ok (.aload_n 0, 1) := by decide +kernel
theorem dX5_loud_1 : decode cX5_loud 1 = .ok (.invokespecial 7, 3) := by decide +kernel
theorem dX5_loud_4 : decode cX5_loud 4 = .ok (.iconst 1, 1) := by decide +kernel
theorem dX5_loud_5 : decode cX5_loud 5 = .ok (.iadd, 1) := by decide +kernel
theorem dX5_loud_6 : decode cX5_loud 6 = .ok (.ireturn, 1) := by decide +kernel
theorem dX6_init_0 : decode cX6_init 0 = .ok (.aload_n 0, 1) := by decide +kernel
theorem dX6_init_1 : decode cX6_init 1 = .ok (.invokespecial 1, 3) := by decide +kernel
theorem dX6_init_4 : decode cX6_init 4 = .ok (.return_, 1) := by decide +kernel
theorem dX6_sounds_0 : decode cX6_sounds 0 = .ok (.iload_n 1, 1) := by decide +kernel
theorem dX6_sounds_1 : decode cX6_sounds 1 = .ok (.bipush 41, 2) := by decide +kernel
theorem dX6_sounds_3 : decode cX6_sounds 3 = .ok (.irem, 1) := by decide +kernel
theorem dX6_sounds_4 : decode cX6_sounds 4 = .ok (.ifCond .ne 15, 3) := by decide +kernel
theorem dX6_sounds_7 : decode cX6_sounds 7 = .ok (.iload_n 3, 1) := by decide +kernel
theorem dX6_sounds_8 : decode cX6_sounds 8 = .ok (.iload_n 2, 1) := by decide +kernel
theorem dX6_sounds_9 : decode cX6_sounds 9 = .ok (.isub, 1) := by decide +kernel
theorem dX6_sounds_10 : decode cX6_sounds 10 = .ok (.bipush 20, 2) := by decide +kernel
theorem dX6_sounds_12 : decode cX6_sounds 12 = .ok (.if_icmp .ge 7, 3) := by decide +kernel
theorem dX6_sounds_15 : decode cX6_sounds 15 = .ok (.iconst 1, 1) := by decide +kernel
theorem dX6_sounds_16 : decode cX6_sounds 16 = .ok (.goto 4, 3) := by decide +kernel
theorem dX6_sounds_19 : decode cX6_sounds 19 = .ok (.iconst 0, 1) := by decide +kernel
theorem dX6_sounds_20 : decode cX6_sounds 20 = .ok (.ireturn, 1) := by decide +kernel
theorem dX6_loud_0 : decode cX6_loud 0 = .ok (.bipush 20, 2) := by decide +kernel
theorem dX6_loud_2 : decode cX6_loud 2 = .ok (.ireturn, 1) := by decide +kernel
theorem dX6_soundsDown_0 : decode cX6_soundsDown 0 = .ok (.iconst 0, 1) := by decide +kernel
theorem dX6_soundsDown_1 : decode cX6_soundsDown 1 = .ok (.ireturn, 1) := by decide +kernel
theorem dX6_everSounds_0 : decode cX6_everSounds 0 = .ok (.iconst 0, 1) := by decide +kernel
theorem dX6_everSounds_1 : decode cX6_everSounds 1 = .ok (.istore_n 3, 1) := by decide +kernel
theorem dX6_everSounds_2 : decode cX6_everSounds 2 = .ok (.iload_n 3, 1) := by decide +kernel
theorem dX6_everSounds_3 : decode cX6_everSounds 3 = .ok (.getstatic 7, 3) := by decide +kernel
theorem dX6_everSounds_6 : decode cX6_everSounds 6 = .ok (.arraylength, 1) := by decide +kernel
theorem dX6_everSounds_7 : decode cX6_everSounds 7 = .ok (.if_icmp .ge 25, 3) := by decide +kernel
theorem dX6_everSounds_10 : decode cX6_everSounds 10 = .ok (.aload_n 0, 1) := by decide +kernel
theorem dX6_everSounds_11 : decode cX6_everSounds 11 = .ok (.getstatic 7, 3) := by decide +kernel
theorem dX6_everSounds_14 : decode cX6_everSounds 14 = .ok (.iload_n 3, 1) := by decide +kernel
theorem dX6_everSounds_15 : decode cX6_everSounds 15 = .ok (.iaload, 1) := by decide +kernel
theorem dX6_everSounds_16 : decode cX6_everSounds 16 = .ok (.iload_n 1, 1) := by decide +kernel
theorem dX6_everSounds_17 : decode cX6_everSounds 17 = .ok (.iload_n 2, 1) := by decide +kernel
theorem dX6_everSounds_18 : decode cX6_everSounds 18 = .ok (.invokevirtual 13, 3) := by decide +kernel
theorem dX6_everSounds_21 : decode cX6_everSounds 21 = .ok (.ifCond .eq 5, 3) := by decide +kernel
theorem dX6_everSounds_24 : decode cX6_everSounds 24 = .ok (.iconst 1, 1) := by decide +kernel
theorem dX6_everSounds_25 : decode cX6_everSounds 25 = .ok (.ireturn, 1) := by decide +kernel
theorem dX6_everSounds_26 : decode cX6_everSounds 26 = .ok (.iinc 3 1, 3) := by decide +kernel
theorem dX6_everSounds_29 : decode cX6_everSounds 29 = .ok (.goto (-27), 3) := by decide +kernel
theorem dX6_everSounds_32 : decode cX6_everSounds 32 = .ok (.iconst 0, 1) := by decide +kernel
theorem dX6_everSounds_33 : decode cX6_everSounds 33 = .ok (.ireturn, 1) := by decide +kernel
theorem dX7_init_0 : decode cX7_init 0 = .ok (.aload_n 0, 1) := by decide +kernel
theorem dX7_init_1 : decode cX7_init 1 = .ok (.invokespecial 3, 3) := by decide +kernel
theorem dX7_init_4 : decode cX7_init 4 = .ok (.aload_n 0, 1) := by decide +kernel
theorem dX7_init_5 : decode cX7_init 5 = .ok (.bipush 48, 2) := by decide +kernel
theorem dX7_init_7 : decode cX7_init 7 = .ok (.newarray .int, 2) := by decide +kernel
theorem dX7_init_9 : decode cX7_init 9 = .ok (.putfield 9, 3) := by decide +kernel
theorem dX7_init_12 : decode cX7_init 12 = .ok (.aload_n 0, 1) := by decide +kernel
theorem dX7_init_13 : decode cX7_init 13 = .ok (.bipush 64, 2) := by decide +kernel
theorem dX7_init_15 : decode cX7_init 15 = .ok (.newarray .int, 2) := by decide +kernel
theorem dX7_init_17 : decode cX7_init 17 = .ok (.putfield 15, 3) := by decide +kernel
theorem dX7_init_20 : decode cX7_init 20 = .ok (.aload_n 0, 1) := by decide +kernel
theorem dX7_init_21 : decode cX7_init 21 = .ok (.bipush 64, 2) := by decide +kernel
theorem dX7_init_23 : decode cX7_init 23 = .ok (.newarray .int, 2) := by decide +kernel
theorem dX7_init_25 : decode cX7_init 25 = .ok (.putfield 18, 3) := by decide +kernel
theorem dX7_init_28 : decode cX7_init 28 = .ok (.aload_n 0, 1) := by decide +kernel
theorem dX7_init_29 : decode cX7_init 29 = .ok (.bipush 6, 2) := by decide +kernel
theorem dX7_init_31 : decode cX7_init 31 = .ok (.newarray .int, 2) := by decide +kernel
theorem dX7_init_33 : decode cX7_init 33 = .ok (.putfield 21, 3) := by decide +kernel
theorem dX7_init_36 : decode cX7_init 36 = .ok (.aload_n 0, 1) := by decide +kernel
theorem dX7_init_37 : decode cX7_init 37 = .ok (.bipush 6, 2) := by decide +kernel
theorem dX7_init_39 : decode cX7_init 39 = .ok (.newarray .int, 2) := by decide +kernel
theorem dX7_init_41 : decode cX7_init 41 = .ok (.putfield 24, 3) := by decide +kernel
theorem dX7_init_44 : decode cX7_init 44 = .ok (.aload_n 0, 1) := by decide +kernel
theorem dX7_init_45 : decode cX7_init 45 = .ok (.bipush 42, 2) := by decide +kernel
theorem dX7_init_47 : decode cX7_init 47 = .ok (.newarray .int, 2) := by decide +kernel
theorem dX7_init_49 : decode cX7_init 49 = .ok (.putfield 27, 3) := by decide +kernel
theorem dX7_init_52 : decode cX7_init 52 = .ok (.aload_n 0, 1) := by decide +kernel
theorem dX7_init_53 : decode cX7_init 53 = .ok (.sipush 384, 3) := by decide +kernel
theorem dX7_init_56 : decode cX7_init 56 = .ok (.newarray .int, 2) := by decide +kernel
theorem dX7_init_58 : decode cX7_init 58 = .ok (.putfield 30, 3) := by decide +kernel
theorem dX7_init_61 : decode cX7_init 61 = .ok (.return_, 1) := by decide +kernel
theorem dX7_learnAlike_0 : decode cX7_learnAlike 0 = .ok (.iconst 0, 1) := by decide +kernel
theorem dX7_learnAlike_1 : decode cX7_learnAlike 1 = .ok (.istore_n 2, 1) := by decide +kernel
theorem dX7_learnAlike_2 : decode cX7_learnAlike 2 = .ok (.iload_n 2, 1) := by decide +kernel
theorem dX7_learnAlike_3 : decode cX7_learnAlike 3 = .ok (.bipush 8, 2) := by decide +kernel
theorem dX7_learnAlike_5 : decode cX7_learnAlike 5 = .ok (.if_icmp .ge 118, 3) := by decide +kernel
theorem dX7_learnAlike_8 : decode cX7_learnAlike 8 = .ok (.iconst 0, 1) := by decide +kernel
theorem dX7_learnAlike_9 : decode cX7_learnAlike 9 = .ok (.istore_n 3, 1) := by decide +kernel
theorem dX7_learnAlike_10 : decode cX7_learnAlike 10 = .ok (.iload_n 3, 1) := by decide +kernel
theorem dX7_learnAlike_11 : decode cX7_learnAlike 11 = .ok (.aload_n 1, 1) := by decide +kernel
theorem dX7_learnAlike_12 : decode cX7_learnAlike 12 = .ok (.getfield 33, 3) := by decide +kernel
theorem dX7_learnAlike_15 : decode cX7_learnAlike 15 = .ok (.if_icmp .ge 102, 3) := by decide +kernel
theorem dX7_learnAlike_18 : decode cX7_learnAlike 18 = .ok (.aload_n 0, 1) := by decide +kernel
theorem dX7_learnAlike_19 : decode cX7_learnAlike 19 = .ok (.getfield 9, 3) := by decide +kernel
theorem dX7_learnAlike_22 : decode cX7_learnAlike 22 = .ok (.iload_n 2, 1) := by decide +kernel
theorem dX7_learnAlike_23 : decode cX7_learnAlike 23 = .ok (.bipush 6, 2) := by decide +kernel
theorem dX7_learnAlike_25 : decode cX7_learnAlike 25 = .ok (.imul, 1) := by decide +kernel
theorem dX7_learnAlike_26 : decode cX7_learnAlike 26 = .ok (.iload_n 3, 1) := by decide +kernel
theorem dX7_learnAlike_27 : decode cX7_learnAlike 27 = .ok (.iadd, 1) := by decide +kernel
theorem dX7_learnAlike_28 : decode cX7_learnAlike 28 = .ok (.iconst 1, 1) := by decide +kernel
theorem dX7_learnAlike_29 : decode cX7_learnAlike 29 = .ok (.iload_n 3, 1) := by decide +kernel
theorem dX7_learnAlike_30 : decode cX7_learnAlike 30 = .ok (.ishl, 1) := by decide +kernel
theorem dX7_learnAlike_31 : decode cX7_learnAlike 31 = .ok (.iastore, 1) := by decide +kernel
theorem dX7_learnAlike_32 : decode cX7_learnAlike 32 = .ok (.aload_n 0, 1) := by decide +kernel
theorem dX7_learnAlike_33 : decode cX7_learnAlike 33 = .ok (.getfield 21, 3) := by decide +kernel
theorem dX7_learnAlike_36 : decode cX7_learnAlike 36 = .ok (.iload_n 3, 1) := by decide +kernel
theorem dX7_learnAlike_37 : decode cX7_learnAlike 37 = .ok (.aload_n 1, 1) := by decide +kernel
theorem dX7_learnAlike_38 : decode cX7_learnAlike 38 = .ok (.iload_n 2, 1) := by decide +kernel
theorem dX7_learnAlike_39 : decode cX7_learnAlike 39 = .ok (.iload_n 3, 1) := by decide +kernel
theorem dX7_learnAlike_40 : decode cX7_learnAlike 40 = .ok (.invokevirtual 39, 3) := by decide +kernel
theorem dX7_learnAlike_43 : decode cX7_learnAlike 43 = .ok (.iastore, 1) := by decide +kernel
theorem dX7_learnAlike_44 : decode cX7_learnAlike 44 = .ok (.iconst 0, 1) := by decide +kernel
theorem dX7_learnAlike_45 : decode cX7_learnAlike 45 = .ok (.istore 4, 2) := by decide +kernel
theorem dX7_learnAlike_47 : decode cX7_learnAlike 47 = .ok (.iload 4, 2) := by decide +kernel
theorem dX7_learnAlike_49 : decode cX7_learnAlike 49 = .ok (.iload_n 3, 1) := by decide +kernel
theorem dX7_learnAlike_50 : decode cX7_learnAlike 50 = .ok (.if_icmp .ge 61, 3) := by decide +kernel
theorem dX7_learnAlike_53 : decode cX7_learnAlike 53 = .ok (.aload_n 0, 1) := by decide +kernel
theorem dX7_learnAlike_54 : decode cX7_learnAlike 54 = .ok (.getfield 21, 3) := by decide +kernel
theorem dX7_learnAlike_57 : decode cX7_learnAlike 57 = .ok (.iload 4, 2) := by decide +kernel
theorem dX7_learnAlike_59 : decode cX7_learnAlike 59 = .ok (.iaload, 1) := by decide +kernel
theorem dX7_learnAlike_60 : decode cX7_learnAlike 60 = .ok (.aload_n 0, 1) := by decide +kernel
theorem dX7_learnAlike_61 : decode cX7_learnAlike 61 = .ok (.getfield 21, 3) := by decide +kernel
theorem dX7_learnAlike_64 : decode cX7_learnAlike 64 = .ok (.iload_n 3, 1) := by decide +kernel
theorem dX7_learnAlike_65 : decode cX7_learnAlike 65 = .ok (.iaload, 1) := by decide +kernel
theorem dX7_learnAlike_66 : decode cX7_learnAlike 66 = .ok (.if_icmp .ne 39, 3) := by decide +kernel
theorem dX7_learnAlike_69 : decode cX7_learnAlike 69 = .ok (.aload_n 0, 1) := by decide +kernel
theorem dX7_learnAlike_70 : decode cX7_learnAlike 70 = .ok (.getfield 9, 3) := by decide +kernel
theorem dX7_learnAlike_73 : decode cX7_learnAlike 73 = .ok (.iload_n 2, 1) := by decide +kernel
theorem dX7_learnAlike_74 : decode cX7_learnAlike 74 = .ok (.bipush 6, 2) := by decide +kernel
theorem dX7_learnAlike_76 : decode cX7_learnAlike 76 = .ok (.imul, 1) := by decide +kernel
theorem dX7_learnAlike_77 : decode cX7_learnAlike 77 = .ok (.iload_n 3, 1) := by decide +kernel
theorem dX7_learnAlike_78 : decode cX7_learnAlike 78 = .ok (.iadd, 1) := by decide +kernel
theorem dX7_learnAlike_79 : decode cX7_learnAlike 79 = .ok (.dup2, 1) := by decide +kernel
theorem dX7_learnAlike_80 : decode cX7_learnAlike 80 = .ok (.iaload, 1) := by decide +kernel
theorem dX7_learnAlike_81 : decode cX7_learnAlike 81 = .ok (.iconst 1, 1) := by decide +kernel
theorem dX7_learnAlike_82 : decode cX7_learnAlike 82 = .ok (.iload 4, 2) := by decide +kernel
theorem dX7_learnAlike_84 : decode cX7_learnAlike 84 = .ok (.ishl, 1) := by decide +kernel
theorem dX7_learnAlike_85 : decode cX7_learnAlike 85 = .ok (.ior, 1) := by decide +kernel
theorem dX7_learnAlike_86 : decode cX7_learnAlike 86 = .ok (.iastore, 1) := by decide +kernel
theorem dX7_learnAlike_87 : decode cX7_learnAlike 87 = .ok (.aload_n 0, 1) := by decide +kernel
theorem dX7_learnAlike_88 : decode cX7_learnAlike 88 = .ok (.getfield 9, 3) := by decide +kernel
theorem dX7_learnAlike_91 : decode cX7_learnAlike 91 = .ok (.iload_n 2, 1) := by decide +kernel
theorem dX7_learnAlike_92 : decode cX7_learnAlike 92 = .ok (.bipush 6, 2) := by decide +kernel
theorem dX7_learnAlike_94 : decode cX7_learnAlike 94 = .ok (.imul, 1) := by decide +kernel
theorem dX7_learnAlike_95 : decode cX7_learnAlike 95 = .ok (.iload 4, 2) := by decide +kernel
theorem dX7_learnAlike_97 : decode cX7_learnAlike 97 = .ok (.iadd, 1) := by decide +kernel
theorem dX7_learnAlike_98 : decode cX7_learnAlike 98 = .ok (.dup2, 1) := by decide +kernel
theorem dX7_learnAlike_99 : decode cX7_learnAlike 99 = .ok (.iaload, 1) := by decide +kernel
theorem dX7_learnAlike_100 : decode cX7_learnAlike 100 = .ok (.iconst 1, 1) := by decide +kernel
theorem dX7_learnAlike_101 : decode cX7_learnAlike 101 = .ok (.iload_n 3, 1) := by decide +kernel
theorem dX7_learnAlike_102 : decode cX7_learnAlike 102 = .ok (.ishl, 1) := by decide +kernel
theorem dX7_learnAlike_103 : decode cX7_learnAlike 103 = .ok (.ior, 1) := by decide +kernel
theorem dX7_learnAlike_104 : decode cX7_learnAlike 104 = .ok (.iastore, 1) := by decide +kernel
theorem dX7_learnAlike_105 : decode cX7_learnAlike 105 = .ok (.iinc 4 1, 3) := by decide +kernel
theorem dX7_learnAlike_108 : decode cX7_learnAlike 108 = .ok (.goto (-61), 3) := by decide +kernel
theorem dX7_learnAlike_111 : decode cX7_learnAlike 111 = .ok (.iinc 3 1, 3) := by decide +kernel
theorem dX7_learnAlike_114 : decode cX7_learnAlike 114 = .ok (.goto (-104), 3) := by decide +kernel
theorem dX7_learnAlike_117 : decode cX7_learnAlike 117 = .ok (.iinc 2 1, 3) := by decide +kernel
theorem dX7_learnAlike_120 : decode cX7_learnAlike 120 = .ok (.goto (-118), 3) := by decide +kernel
theorem dX7_learnAlike_123 : decode cX7_learnAlike 123 = .ok (.return_, 1) := by decide +kernel
theorem dX7_settleAll_0 : decode cX7_settleAll 0 = .ok (.iconst 1, 1) := by decide +kernel
theorem dX7_settleAll_1 : decode cX7_settleAll 1 = .ok (.istore_n 2, 1) := by decide +kernel
theorem dX7_settleAll_2 : decode cX7_settleAll 2 = .ok (.iload_n 2, 1) := by decide +kernel
theorem dX7_settleAll_3 : decode cX7_settleAll 3 = .ok (.iload_n 1, 1) := by decide +kernel
theorem dX7_settleAll_4 : decode cX7_settleAll 4 = .ok (.if_icmp .gt 31, 3) := by decide +kernel
theorem dX7_settleAll_7 : decode cX7_settleAll 7 = .ok (.iload_n 2, 1) := by decide +kernel
theorem dX7_settleAll_8 : decode cX7_settleAll 8 = .ok (.aload_n 0, 1) := by decide +kernel
theorem dX7_settleAll_9 : decode cX7_settleAll 9 = .ok (.getfield 15, 3) := by decide +kernel
theorem dX7_settleAll_12 : decode cX7_settleAll 12 = .ok (.arraylength, 1) := by decide +kernel
theorem dX7_settleAll_13 : decode cX7_settleAll 13 = .ok (.if_icmp .ge 22, 3) := by decide +kernel
theorem dX7_settleAll_16 : decode cX7_settleAll 16 = .ok (.iload_n 2, 1) := by decide +kernel
theorem dX7_settleAll_17 : decode cX7_settleAll 17 = .ok (.iload_n 1, 1) := by decide +kernel
theorem dX7_settleAll_18 : decode cX7_settleAll 18 = .ok (.iconst (-1), 1) := by decide +kernel
theorem dX7_settleAll_19 : decode cX7_settleAll 19 = .ok (.ixor, 1) := by decide +kernel
theorem dX7_settleAll_20 : decode cX7_settleAll 20 = .ok (.iand, 1) := by decide +kernel
theorem dX7_settleAll_21 : decode cX7_settleAll 21 = .ok (.ifCond .ne 8, 3) := by decide +kernel
theorem dX7_settleAll_24 : decode cX7_settleAll 24 = .ok (.aload_n 0, 1) := by decide +kernel
theorem dX7_settleAll_25 : decode cX7_settleAll 25 = .ok (.iload_n 2, 1) := by decide +kernel
theorem dX7_settleAll_26 : decode cX7_settleAll 26 = .ok (.invokevirtual 43, 3) := by decide +kernel
theorem dX7_settleAll_29 : decode cX7_settleAll 29 = .ok (.iinc 2 1, 3) := by decide +kernel
theorem dX7_settleAll_32 : decode cX7_settleAll 32 = .ok (.goto (-30), 3) := by decide +kernel
theorem dX7_settleAll_35 : decode cX7_settleAll 35 = .ok (.return_, 1) := by decide +kernel
theorem dX7_settle_0 : decode cX7_settle 0 = .ok (.aload_n 0, 1) := by decide +kernel
theorem dX7_settle_1 : decode cX7_settle 1 = .ok (.getfield 18, 3) := by decide +kernel
theorem dX7_settle_4 : decode cX7_settle 4 = .ok (.iload_n 1, 1) := by decide +kernel
theorem dX7_settle_5 : decode cX7_settle 5 = .ok (.iconst 0, 1) := by decide +kernel
theorem dX7_settle_6 : decode cX7_settle 6 = .ok (.iastore, 1) := by decide +kernel
theorem dX7_settle_7 : decode cX7_settle 7 = .ok (.iload_n 1, 1) := by decide +kernel
theorem dX7_settle_8 : decode cX7_settle 8 = .ok (.invokestatic 47, 3) := by decide +kernel
theorem dX7_settle_11 : decode cX7_settle 11 = .ok (.iconst 1, 1) := by decide +kernel
theorem dX7_settle_12 : decode cX7_settle 12 = .ok (.if_icmp .ne 11, 3) := by decide +kernel
theorem dX7_settle_15 : decode cX7_settle 15 = .ok (.aload_n 0, 1) := by decide +kernel
theorem dX7_settle_16 : decode cX7_settle 16 = .ok (.getfield 15, 3) := by decide +kernel
theorem dX7_settle_19 : decode cX7_settle 19 = .ok (.iload_n 1, 1) := by decide +kernel
theorem dX7_settle_20 : decode cX7_settle 20 = .ok (.iconst 0, 1) := by decide +kernel
theorem dX7_settle_21 : decode cX7_settle 21 = .ok (.iastore, 1) := by decide +kernel
theorem dX7_settle_22 : decode cX7_settle 22 = .ok (.return_, 1) := by decide +kernel
theorem dX7_settle_23 : decode cX7_settle 23 = .ok (.aload_n 0, 1) := by decide +kernel
theorem dX7_settle_24 : decode cX7_settle 24 = .ok (.getfield 15, 3) := by decide +kernel
theorem dX7_settle_27 : decode cX7_settle 27 = .ok (.iload_n 1, 1) := by decide +kernel
theorem dX7_settle_28 : decode cX7_settle 28 = .ok (.bipush 100, 2) := by decide +kernel
theorem dX7_settle_30 : decode cX7_settle 30 = .ok (.iastore, 1) := by decide +kernel
theorem dX7_settle_31 : decode cX7_settle 31 = .ok (.iconst 0, 1) := by decide +kernel
theorem dX7_settle_32 : decode cX7_settle 32 = .ok (.istore_n 2, 1) := by decide +kernel
theorem dX7_settle_33 : decode cX7_settle 33 = .ok (.iload_n 2, 1) := by decide +kernel
theorem dX7_settle_34 : decode cX7_settle 34 = .ok (.bipush 8, 2) := by decide +kernel
theorem dX7_settle_36 : decode cX7_settle 36 = .ok (.if_icmp .ge 42, 3) := by decide +kernel
theorem dX7_settle_39 : decode cX7_settle 39 = .ok (.iconst 1, 1) := by decide +kernel
theorem dX7_settle_40 : decode cX7_settle 40 = .ok (.aload_n 0, 1) := by decide +kernel
theorem dX7_settle_41 : decode cX7_settle 41 = .ok (.iload_n 1, 1) := by decide +kernel
theorem dX7_settle_42 : decode cX7_settle 42 = .ok (.iload_n 2, 1) := by decide +kernel
theorem dX7_settle_43 : decode cX7_settle 43 = .ok (.invokevirtual 53, 3) := by decide +kernel
theorem dX7_settle_46 : decode cX7_settle 46 = .ok (.iadd, 1) := by decide +kernel
theorem dX7_settle_47 : decode cX7_settle 47 = .ok (.istore_n 3, 1) := by decide +kernel
theorem dX7_settle_48 : decode cX7_settle 48 = .ok (.iload_n 3, 1) := by decide +kernel
theorem dX7_settle_49 : decode cX7_settle 49 = .ok (.aload_n 0, 1) := by decide +kernel
theorem dX7_settle_50 : decode cX7_settle 50 = .ok (.getfield 15, 3) := by decide +kernel
theorem dX7_settle_53 : decode cX7_settle 53 = .ok (.iload_n 1, 1) := by decide +kernel
theorem dX7_settle_54 : decode cX7_settle 54 = .ok (.iaload, 1) := by decide +kernel
theorem dX7_settle_55 : decode cX7_settle 55 = .ok (.if_icmp .ge 17, 3) := by decide +kernel
theorem dX7_settle_58 : decode cX7_settle 58 = .ok (.aload_n 0, 1) := by decide +kernel
theorem dX7_settle_59 : decode cX7_settle 59 = .ok (.getfield 15, 3) := by decide +kernel
theorem dX7_settle_62 : decode cX7_settle 62 = .ok (.iload_n 1, 1) := by decide +kernel
theorem dX7_settle_63 : decode cX7_settle 63 = .ok (.iload_n 3, 1) := by decide +kernel
theorem dX7_settle_64 : decode cX7_settle 64 = .ok (.iastore, 1) := by decide +kernel
theorem dX7_settle_65 : decode cX7_settle 65 = .ok (.aload_n 0, 1) := by decide +kernel
theorem dX7_settle_66 : decode cX7_settle 66 = .ok (.getfield 18, 3) := by decide +kernel
theorem dX7_settle_69 : decode cX7_settle 69 = .ok (.iload_n 1, 1) := by decide +kernel
theorem dX7_settle_70 : decode cX7_settle 70 = .ok (.iload_n 2, 1) := by decide +kernel
theorem dX7_settle_71 : decode cX7_settle 71 = .ok (.iastore, 1) := by decide +kernel
theorem dX7_settle_72 : decode cX7_settle 72 = .ok (.iinc 2 1, 3) := by decide +kernel
theorem dX7_settle_75 : decode cX7_settle 75 = .ok (.goto (-42), 3) := by decide +kernel
theorem dX7_settle_78 : decode cX7_settle 78 = .ok (.return_, 1) := by decide +kernel
theorem dX7_worstPart_0 : decode cX7_worstPart 0 = .ok (.iconst 0, 1) := by decide +kernel
theorem dX7_worstPart_1 : decode cX7_worstPart 1 = .ok (.istore_n 3, 1) := by decide +kernel
theorem dX7_worstPart_2 : decode cX7_worstPart 2 = .ok (.iconst 0, 1) := by decide +kernel
theorem dX7_worstPart_3 : decode cX7_worstPart 3 = .ok (.istore 4, 2) := by decide +kernel
theorem dX7_worstPart_5 : decode cX7_worstPart 5 = .ok (.iload 4, 2) := by decide +kernel
theorem dX7_worstPart_7 : decode cX7_worstPart 7 = .ok (.bipush 6, 2) := by decide +kernel
theorem dX7_worstPart_9 : decode cX7_worstPart 9 = .ok (.if_icmp .ge 55, 3) := by decide +kernel
theorem dX7_worstPart_12 : decode cX7_worstPart 12 = .ok (.iload_n 1, 1) := by decide +kernel
theorem dX7_worstPart_13 : decode cX7_worstPart 13 = .ok (.iload 4, 2) := by decide +kernel
theorem dX7_worstPart_15 : decode cX7_worstPart 15 = .ok (.invokestatic 56, 3) := by decide +kernel
theorem dX7_worstPart_18 : decode cX7_worstPart 18 = .ok (.ifCond .eq 40, 3) := by decide +kernel
theorem dX7_worstPart_21 : decode cX7_worstPart 21 = .ok (.iload_n 1, 1) := by decide +kernel
theorem dX7_worstPart_22 : decode cX7_worstPart 22 = .ok (.aload_n 0, 1) := by decide +kernel
theorem dX7_worstPart_23 : decode cX7_worstPart 23 = .ok (.getfield 9, 3) := by decide +kernel
theorem dX7_worstPart_26 : decode cX7_worstPart 26 = .ok (.iload_n 2, 1) := by decide +kernel
theorem dX7_worstPart_27 : decode cX7_worstPart 27 = .ok (.bipush 6, 2) := by decide +kernel
theorem dX7_worstPart_29 : decode cX7_worstPart 29 = .ok (.imul, 1) := by decide +kernel
theorem dX7_worstPart_30 : decode cX7_worstPart 30 = .ok (.iload 4, 2) := by decide +kernel
theorem dX7_worstPart_32 : decode cX7_worstPart 32 = .ok (.iadd, 1) := by decide +kernel
theorem dX7_worstPart_33 : decode cX7_worstPart 33 = .ok (.iaload, 1) := by decide +kernel
theorem dX7_worstPart_34 : decode cX7_worstPart 34 = .ok (.iand, 1) := by decide +kernel
theorem dX7_worstPart_35 : decode cX7_worstPart 35 = .ok (.istore 5, 2) := by decide +kernel
theorem dX7_worstPart_37 : decode cX7_worstPart 37 = .ok (.iload 5, 2) := by decide +kernel
theorem dX7_worstPart_39 : decode cX7_worstPart 39 = .ok (.iload_n 1, 1) := by decide +kernel
theorem dX7_worstPart_40 : decode cX7_worstPart 40 = .ok (.if_icmp .ne 6, 3) := by decide +kernel
theorem dX7_worstPart_43 : decode cX7_worstPart 43 = .ok (.bipush 100, 2) := by decide +kernel
theorem dX7_worstPart_45 : decode cX7_worstPart 45 = .ok (.ireturn, 1) := by decide +kernel
theorem dX7_worstPart_46 : decode cX7_worstPart 46 = .ok (.iload_n 3, 1) := by decide +kernel
theorem dX7_worstPart_47 : decode cX7_worstPart 47 = .ok (.aload_n 0, 1) := by decide +kernel
theorem dX7_worstPart_48 : decode cX7_worstPart 48 = .ok (.getfield 15, 3) := by decide +kernel
theorem dX7_worstPart_51 : decode cX7_worstPart 51 = .ok (.iload 5, 2) := by decide +kernel
theorem dX7_worstPart_53 : decode cX7_worstPart 53 = .ok (.iaload, 1) := by decide +kernel
theorem dX7_worstPart_54 : decode cX7_worstPart 54 = .ok (.invokestatic 60, 3) := by decide +kernel
