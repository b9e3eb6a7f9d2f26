theorem dX10_in_0 : decode cX10_in 0 = .ok (.lload_n 0, 1) := by decide +kernel
theorem dX10_in_1 : decode cX10_in 1 = .ok (.lload_n 2, 1) := by decide +kernel
theorem dX10_in_2 : decode cX10_in 2 = .ok (.lcmp, 1) := by decide +kernel
theorem dX10_in_3 : decode cX10_in 3 = .ok (.ifCond .lt 14, 3) := by decide +kernel
theorem dX10_in_6 : decode cX10_in 6 = .ok (.lload_n 0, 1) := by decide +kernel
theorem dX10_in_7 : decode cX10_in 7 = .ok (.lload 4, 2) := by decide +kernel
theorem dX10_in_9 : decode cX10_in 9 = .ok (.lcmp, 1) := by decide +kernel
theorem dX10_in_10 : decode cX10_in 10 = .ok (.ifCond .gt 7, 3) := by decide +kernel
theorem dX10_in_13 : decode cX10_in 13 = .ok (.iconst 1, 1) := by decide +kernel
theorem dX10_in_14 : decode cX10_in 14 = .ok (.goto 4, 3) := by decide +kernel
theorem dX10_in_17 : decode cX10_in 17 = .ok (.iconst 0, 1) := by decide +kernel
theorem dX10_in_18 : decode cX10_in 18 = .ok (.ireturn, 1) := by decide +kernel
theorem dX10_init_0 : decode cX10_init 0 = .ok (.aload_n 0, 1) := by decide +kernel
theorem dX10_init_1 : decode cX10_init 1 = .ok (.invokespecial 1, 3) := by decide +kernel
theorem dX10_init_4 : decode cX10_init 4 = .ok (.aload_n 0, 1) := by decide +kernel
theorem dX10_init_5 : decode cX10_init 5 = .ok (.sipush 144, 3) := by decide +kernel
theorem dX10_init_8 : decode cX10_init 8 = .ok (.newarray .int, 2) := by decide +kernel
theorem dX10_init_10 : decode cX10_init 10 = .ok (.putfield 7, 3) := by decide +kernel
theorem dX10_init_13 : decode cX10_init 13 = .ok (.aload_n 0, 1) := by decide +kernel
theorem dX10_init_14 : decode cX10_init 14 = .ok (.bipush 40, 2) := by decide +kernel
theorem dX10_init_16 : decode cX10_init 16 = .ok (.newarray .int, 2) := by decide +kernel
theorem dX10_init_18 : decode cX10_init 18 = .ok (.putfield 13, 3) := by decide +kernel
theorem dX10_init_21 : decode cX10_init 21 = .ok (.aload_n 0, 1) := by decide +kernel
theorem dX10_init_22 : decode cX10_init 22 = .ok (.bipush 96, 2) := by decide +kernel
theorem dX10_init_24 : decode cX10_init 24 = .ok (.newarray .int, 2) := by decide +kernel
theorem dX10_init_26 : decode cX10_init 26 = .ok (.putfield 16, 3) := by decide +kernel
theorem dX10_init_29 : decode cX10_init 29 = .ok (.aload_n 0, 1) := by decide +kernel
theorem dX10_init_30 : decode cX10_init 30 = .ok (.bipush 24, 2) := by decide +kernel
theorem dX10_init_32 : decode cX10_init 32 = .ok (.newarray .int, 2) := by decide +kernel
theorem dX10_init_34 : decode cX10_init 34 = .ok (.putfield 19, 3) := by decide +kernel
theorem dX10_init_37 : decode cX10_init 37 = .ok (.aload_n 0, 1) := by decide +kernel
theorem dX10_init_38 : decode cX10_init 38 = .ok (.bipush 7, 2) := by decide +kernel
theorem dX10_init_40 : decode cX10_init 40 = .ok (.newarray .int, 2) := by decide +kernel
theorem dX10_init_42 : decode cX10_init 42 = .ok (.putfield 22, 3) := by decide +kernel
theorem dX10_init_45 : decode cX10_init 45 = .ok (.aload_n 0, 1) := by decide +kernel
theorem dX10_init_46 : decode cX10_init 46 = .ok (.bipush 12, 2) := by decide +kernel
theorem dX10_init_48 : decode cX10_init 48 = .ok (.newarray .int, 2) := by decide +kernel
theorem dX10_init_50 : decode cX10_init 50 = .ok (.putfield 25, 3) := by decide +kernel
theorem dX10_init_53 : decode cX10_init 53 = .ok (.aload_n 0, 1) := by decide +kernel
theorem dX10_init_54 : decode cX10_init 54 = .ok (.sipush 21504, 3) := by decide +kernel
theorem dX10_init_57 : decode cX10_init 57 = .ok (.newarray .int, 2) := by decide +kernel
theorem dX10_init_59 : decode cX10_init 59 = .ok (.putfield 28, 3) := by decide +kernel
theorem dX10_init_62 : decode cX10_init 62 = .ok (.aload_n 0, 1) := by decide +kernel
theorem dX10_init_63 : decode cX10_init 63 = .ok (.sipush 21504, 3) := by decide +kernel
theorem dX10_init_66 : decode cX10_init 66 = .ok (.newarray .int, 2) := by decide +kernel
theorem dX10_init_68 : decode cX10_init 68 = .ok (.putfield 31, 3) := by decide +kernel
theorem dX10_init_71 : decode cX10_init 71 = .ok (.aload_n 0, 1) := by decide +kernel
theorem dX10_init_72 : decode cX10_init 72 = .ok (.sipush 21504, 3) := by decide +kernel
theorem dX10_init_75 : decode cX10_init 75 = .ok (.newarray .int, 2) := by decide +kernel
theorem dX10_init_77 : decode cX10_init 77 = .ok (.putfield 34, 3) := by decide +kernel
theorem dX10_init_80 : decode cX10_init 80 = .ok (.aload_n 0, 1) := by decide +kernel
theorem dX10_init_81 : decode cX10_init 81 = .ok (.bipush 12, 2) := by decide +kernel
theorem dX10_init_83 : decode cX10_init 83 = .ok (.newarray .int, 2) := by decide +kernel
theorem dX10_init_85 : decode cX10_init 85 = .ok (.putfield 37, 3) := by decide +kernel
theorem dX10_init_88 : decode cX10_init 88 = .ok (.aload_n 0, 1) := by decide +kernel
theorem dX10_init_89 : decode cX10_init 89 = .ok (.bipush 120, 2) := by decide +kernel
theorem dX10_init_91 : decode cX10_init 91 = .ok (.newarray .int, 2) := by decide +kernel
theorem dX10_init_93 : decode cX10_init 93 = .ok (.putfield 40, 3) := by decide +kernel
theorem dX10_init_96 : decode cX10_init 96 = .ok (.aload_n 0, 1) := by decide +kernel
theorem dX10_init_97 : decode cX10_init 97 = .ok (.bipush 72, 2) := by decide +kernel
theorem dX10_init_99 : decode cX10_init 99 = .ok (.newarray .int, 2) := by decide +kernel
theorem dX10_init_101 : decode cX10_init 101 = .ok (.putfield 43, 3) := by decide +kernel
theorem dX10_init_104 : decode cX10_init 104 = .ok (.aload_n 0, 1) := by decide +kernel
theorem dX10_init_105 : decode cX10_init 105 = .ok (.bipush 96, 2) := by decide +kernel
theorem dX10_init_107 : decode cX10_init 107 = .ok (.newarray .int, 2) := by decide +kernel
theorem dX10_init_109 : decode cX10_init 109 = .ok (.putfield 46, 3) := by decide +kernel
theorem dX10_init_112 : decode cX10_init 112 = .ok (.aload_n 0, 1) := by decide +kernel
theorem dX10_init_113 : decode cX10_init 113 = .ok (.sipush 320, 3) := by decide +kernel
theorem dX10_init_116 : decode cX10_init 116 = .ok (.newarray .int, 2) := by decide +kernel
theorem dX10_init_118 : decode cX10_init 118 = .ok (.putfield 49, 3) := by decide +kernel
theorem dX10_init_121 : decode cX10_init 121 = .ok (.aload_n 0, 1) := by decide +kernel
theorem dX10_init_122 : decode cX10_init 122 = .ok (.iconst 4, 1) := by decide +kernel
theorem dX10_init_123 : decode cX10_init 123 = .ok (.newarray .int, 2) := by decide +kernel
theorem dX10_init_125 : decode cX10_init 125 = .ok (.putfield 52, 3) := by decide +kernel
theorem dX10_init_128 : decode cX10_init 128 = .ok (.aload_n 0, 1) := by decide +kernel
theorem dX10_init_129 : decode cX10_init 129 = .ok (.iconst 4, 1) := by decide +kernel
theorem dX10_init_130 : decode cX10_init 130 = .ok (.newarray .int, 2) := by decide +kernel
theorem dX10_init_132 : decode cX10_init 132 = .ok (.putfield 55, 3) := by decide +kernel
theorem dX10_init_135 : decode cX10_init 135 = .ok (.aload_n 0, 1) := by decide +kernel
theorem dX10_init_136 : decode cX10_init 136 = .ok (.iconst 4, 1) := by decide +kernel
theorem dX10_init_137 : decode cX10_init 137 = .ok (.newarray .int, 2) := by decide +kernel
theorem dX10_init_139 : decode cX10_init 139 = .ok (.putfield 58, 3) := by decide +kernel
theorem dX10_init_142 : decode cX10_init 142 = .ok (.aload_n 0, 1) := by decide +kernel
theorem dX10_init_143 : decode cX10_init 143 = .ok (.bipush 64, 2) := by decide +kernel
theorem dX10_init_145 : decode cX10_init 145 = .ok (.newarray .int, 2) := by decide +kernel
theorem dX10_init_147 : decode cX10_init 147 = .ok (.putfield 61, 3) := by decide +kernel
theorem dX10_init_150 : decode cX10_init 150 = .ok (.iconst 0, 1) := by decide +kernel
theorem dX10_init_151 : decode cX10_init 151 = .ok (.istore_n 1, 1) := by decide +kernel
theorem dX10_init_152 : decode cX10_init 152 = .ok (.iload_n 1, 1) := by decide +kernel
theorem dX10_init_153 : decode cX10_init 153 = .ok (.iconst 4, 1) := by decide +kernel
theorem dX10_init_154 : decode cX10_init 154 = .ok (.if_icmp .ge 16, 3) := by decide +kernel
theorem dX10_init_157 : decode cX10_init 157 = .ok (.aload_n 0, 1) := by decide +kernel
theorem dX10_init_158 : decode cX10_init 158 = .ok (.getfield 55, 3) := by decide +kernel
theorem dX10_init_161 : decode cX10_init 161 = .ok (.iload_n 1, 1) := by decide +kernel
theorem dX10_init_162 : decode cX10_init 162 = .ok (.iconst (-1), 1) := by decide +kernel
theorem dX10_init_163 : decode cX10_init 163 = .ok (.iastore, 1) := by decide +kernel
theorem dX10_init_164 : decode cX10_init 164 = .ok (.iinc 1 1, 3) := by decide +kernel
theorem dX10_init_167 : decode cX10_init 167 = .ok (.goto (-15), 3) := by decide +kernel
theorem dX10_init_170 : decode cX10_init 170 = .ok (.aload_n 0, 1) := by decide +kernel
theorem dX10_init_171 : decode cX10_init 171 = .ok (.invokevirtual 64, 3) := by decide +kernel
theorem dX10_init_174 : decode cX10_init 174 = .ok (.return_, 1) := by decide +kernel
theorem dX10_free_0 : decode cX10_free 0 = .ok (.aload_n 0, 1) := by decide +kernel
theorem dX10_free_1 : decode cX10_free 1 = .ok (.getfield 22, 3) := by decide +kernel
theorem dX10_free_4 : decode cX10_free 4 = .ok (.iconst 3, 1) := by decide +kernel
theorem dX10_free_5 : decode cX10_free 5 = .ok (.iconst 0, 1) := by decide +kernel
theorem dX10_free_6 : decode cX10_free 6 = .ok (.iastore, 1) := by decide +kernel
theorem dX10_free_7 : decode cX10_free 7 = .ok (.aload_n 0, 1) := by decide +kernel
theorem dX10_free_8 : decode cX10_free 8 = .ok (.getfield 22, 3) := by decide +kernel
theorem dX10_free_11 : decode cX10_free 11 = .ok (.iconst 4, 1) := by decide +kernel
theorem dX10_free_12 : decode cX10_free 12 = .ok (.bipush (-4), 2) := by decide +kernel
theorem dX10_free_14 : decode cX10_free 14 = .ok (.iastore, 1) := by decide +kernel
theorem dX10_free_15 : decode cX10_free 15 = .ok (.aload_n 0, 1) := by decide +kernel
theorem dX10_free_16 : decode cX10_free 16 = .ok (.getfield 22, 3) := by decide +kernel
theorem dX10_free_19 : decode cX10_free 19 = .ok (.iconst 5, 1) := by decide +kernel
theorem dX10_free_20 : decode cX10_free 20 = .ok (.sipush 255, 3) := by decide +kernel
theorem dX10_free_23 : decode cX10_free 23 = .ok (.iastore, 1) := by decide +kernel
theorem dX10_free_24 : decode cX10_free 24 = .ok (.return_, 1) := by decide +kernel
theorem dX10_isLand_0 : decode cX10_isLand 0 = .ok (.iload_n 0, 1) := by decide +kernel
theorem dX10_isLand_1 : decode cX10_isLand 1 = .ok (.i2l, 1) := by decide +kernel
theorem dX10_isLand_2 : decode cX10_isLand 2 = .ok (.lconst 0, 1) := by decide +kernel
theorem dX10_isLand_3 : decode cX10_isLand 3 = .ok (.ldc2_w 67, 3) := by decide +kernel
theorem dX10_isLand_6 : decode cX10_isLand 6 = .ok (.invokestatic 69, 3) := by decide +kernel
theorem dX10_isLand_9 : decode cX10_isLand 9 = .ok (.ireturn, 1) := by decide +kernel
theorem dX10_isDeed_0 : decode cX10_isDeed 0 = .ok (.iload_n 1, 1) := by decide +kernel
theorem dX10_isDeed_1 : decode cX10_isDeed 1 = .ok (.i2l, 1) := by decide +kernel
theorem dX10_isDeed_2 : decode cX10_isDeed 2 = .ok (.lconst 0, 1) := by decide +kernel
theorem dX10_isDeed_3 : decode cX10_isDeed 3 = .ok (.aload_n 0, 1) := by decide +kernel
theorem dX10_isDeed_4 : decode cX10_isDeed 4 = .ok (.getfield 73, 3) := by decide +kernel
theorem dX10_isDeed_7 : decode cX10_isDeed 7 = .ok (.iconst 1, 1) := by decide +kernel
theorem dX10_isDeed_8 : decode cX10_isDeed 8 = .ok (.isub, 1) := by decide +kernel
theorem dX10_isDeed_9 : decode cX10_isDeed 9 = .ok (.i2l, 1) := by decide +kernel
theorem dX10_isDeed_10 : decode cX10_isDeed 10 = .ok (.invokestatic 69, 3) := by decide +kernel
theorem dX10_isDeed_13 : decode cX10_isDeed 13 = .ok (.ireturn, 1) := by decide +kernel
theorem dX10_isPaper_0 : decode cX10_isPaper 0 = .ok (.iload_n 1, 1) := by decide +kernel
theorem dX10_isPaper_1 : decode cX10_isPaper 1 = .ok (.i2l, 1) := by decide +kernel
theorem dX10_isPaper_2 : decode cX10_isPaper 2 = .ok (.lconst 0, 1) := by decide +kernel
theorem dX10_isPaper_3 : decode cX10_isPaper 3 = .ok (.aload_n 0, 1) := by decide +kernel
theorem dX10_isPaper_4 : decode cX10_isPaper 4 = .ok (.getfield 77, 3) := by decide +kernel
theorem dX10_isPaper_7 : decode cX10_isPaper 7 = .ok (.iconst 1, 1) := by decide +kernel
theorem dX10_isPaper_8 : decode cX10_isPaper 8 = .ok (.isub, 1) := by decide +kernel
theorem dX10_isPaper_9 : decode cX10_isPaper 9 = .ok (.i2l, 1) := by decide +kernel
theorem dX10_isPaper_10 : decode cX10_isPaper 10 = .ok (.invokestatic 69, 3) := by decide +kernel
theorem dX10_isPaper_13 : decode cX10_isPaper 13 = .ok (.ireturn, 1) := by decide +kernel
theorem dX10_addCrime_0 : decode cX10_addCrime 0 = .ok (.bipush 6, 2) := by decide +kernel
theorem dX10_addCrime_2 : decode cX10_addCrime 2 = .ok (.aload_n 0, 1) := by decide +kernel
theorem dX10_addCrime_3 : decode cX10_addCrime 3 = .ok (.getfield 80, 3) := by decide +kernel
theorem dX10_addCrime_6 : decode cX10_addCrime 6 = .ok (.imul, 1) := by decide +kernel
theorem dX10_addCrime_7 : decode cX10_addCrime 7 = .ok (.istore 7, 2) := by decide +kernel
theorem dX10_addCrime_9 : decode cX10_addCrime 9 = .ok (.aload_n 0, 1) := by decide +kernel
theorem dX10_addCrime_10 : decode cX10_addCrime 10 = .ok (.getfield 7, 3) := by decide +kernel
theorem dX10_addCrime_13 : decode cX10_addCrime 13 = .ok (.iload 7, 2) := by decide +kernel
theorem dX10_addCrime_15 : decode cX10_addCrime 15 = .ok (.iload_n 1, 1) := by decide +kernel
theorem dX10_addCrime_16 : decode cX10_addCrime 16 = .ok (.iastore, 1) := by decide +kernel
theorem dX10_addCrime_17 : decode cX10_addCrime 17 = .ok (.aload_n 0, 1) := by decide +kernel
theorem dX10_addCrime_18 : decode cX10_addCrime 18 = .ok (.getfield 7, 3) := by decide +kernel
theorem dX10_addCrime_21 : decode cX10_addCrime 21 = .ok (.iload 7, 2) := by decide +kernel
theorem dX10_addCrime_23 : decode cX10_addCrime 23 = .ok (.iconst 1, 1) := by decide +kernel
theorem dX10_addCrime_24 : decode cX10_addCrime 24 = .ok (.iadd, 1) := by decide +kernel
theorem dX10_addCrime_25 : decode cX10_addCrime 25 = .ok (.iload_n 2, 1) := by decide +kernel
theorem dX10_addCrime_26 : decode cX10_addCrime 26 = .ok (.iastore, 1) := by decide +kernel
theorem dX10_addCrime_27 : decode cX10_addCrime 27 = .ok (.aload_n 0, 1) := by decide +kernel
theorem dX10_addCrime_28 : decode cX10_addCrime 28 = .ok (.getfield 7, 3) := by decide +kernel
theorem dX10_addCrime_31 : decode cX10_addCrime 31 = .ok (.iload 7, 2) := by decide +kernel
theorem dX10_addCrime_33 : decode cX10_addCrime 33 = .ok (.iconst 2, 1) := by decide +kernel
theorem dX10_addCrime_34 : decode cX10_addCrime 34 = .ok (.iadd, 1) := by decide +kernel
theorem dX10_addCrime_35 : decode cX10_addCrime 35 = .ok (.iload_n 3, 1) := by decide +kernel
theorem dX10_addCrime_36 : decode cX10_addCrime 36 = .ok (.iastore, 1) := by decide +kernel
theorem dX10_addCrime_37 : decode cX10_addCrime 37 = .ok (.aload_n 0, 1) := by decide +kernel
theorem dX10_addCrime_38 : decode cX10_addCrime 38 = .ok (.getfield 7, 3) := by decide +kernel
theorem dX10_addCrime_41 : decode cX10_addCrime 41 = .ok (.iload 7, 2) := by decide +kernel
theorem dX10_addCrime_43 : decode cX10_addCrime 43 = .ok (.iconst 3, 1) := by decide +kernel
theorem dX10_addCrime_44 : decode cX10_addCrime 44 = .ok (.iadd, 1) := by decide +kernel
theorem dX10_addCrime_45 : decode cX10_addCrime 45 = .ok (.iload 4, 2) := by decide +kernel
theorem dX10_addCrime_47 : decode cX10_addCrime 47 = .ok (.iastore, 1) := by decide +kernel
theorem dX10_addCrime_48 : decode cX10_addCrime 48 = .ok (.aload_n 0, 1) := by decide +kernel
theorem dX10_addCrime_49 : decode cX10_addCrime 49 = .ok (.getfield 7, 3) := by decide +kernel
theorem dX10_addCrime_52 : decode cX10_addCrime 52 = .ok (.iload 7, 2) := by decide +kernel
theorem dX10_addCrime_54 : decode cX10_addCrime 54 = .ok (.iconst 4, 1) := by decide +kernel
theorem dX10_addCrime_55 : decode cX10_addCrime 55 = .ok (.iadd, 1) := by decide +kernel
theorem dX10_addCrime_56 : decode cX10_addCrime 56 = .ok (.iload 5, 2) := by decide +kernel
theorem dX10_addCrime_58 : decode cX10_addCrime 58 = .ok (.iastore, 1) := by decide +kernel
theorem dX10_addCrime_59 : decode cX10_addCrime 59 = .ok (.aload_n 0, 1) := by decide +kernel
theorem dX10_addCrime_60 : decode cX10_addCrime 60 = .ok (.getfield 7, 3) := by decide +kernel
theorem dX10_addCrime_63 : decode cX10_addCrime 63 = .ok (.iload 7, 2) := by decide +kernel
theorem dX10_addCrime_65 : decode cX10_addCrime 65 = .ok (.iconst 5, 1) := by decide +kernel
theorem dX10_addCrime_66 : decode cX10_addCrime 66 = .ok (.iadd, 1) := by decide +kernel
theorem dX10_addCrime_67 : decode cX10_addCrime 67 = .ok (.iload 6, 2) := by decide +kernel
theorem dX10_addCrime_69 : decode cX10_addCrime 69 = .ok (.iastore, 1) := by decide +kernel
theorem dX10_addCrime_70 : decode cX10_addCrime 70 = .ok (.aload_n 0, 1) := by decide +kernel
theorem dX10_addCrime_71 : decode cX10_addCrime 71 = .ok (.dup, 1) := by decide +kernel
theorem dX10_addCrime_72 : decode cX10_addCrime 72 = .ok (.getfield 80, 3) := by decide +kernel
theorem dX10_addCrime_75 : decode cX10_addCrime 75 = .ok (.iconst 1, 1) := by decide +kernel
theorem dX10_addCrime_76 : decode cX10_addCrime 76 = .ok (.iadd, 1) := by decide +kernel
theorem dX10_addCrime_77 : decode cX10_addCrime 77 = .ok (.putfield 80, 3) := by decide +kernel
theorem dX10_addCrime_80 : decode cX10_addCrime 80 = .ok (.return_, 1) := by decide +kernel
theorem dX10_crime_0 : decode cX10_crime 0 = .ok (.iload_n 1, 1) := by decide +kernel
theorem dX10_crime_1 : decode cX10_crime 1 = .ok (.invokestatic 83, 3) := by decide +kernel
theorem dX10_crime_4 : decode cX10_crime 4 = .ok (.ifCond .eq 59, 3) := by decide +kernel
theorem dX10_crime_7 : decode cX10_crime 7 = .ok (.iload_n 2, 1) := by decide +kernel
theorem dX10_crime_8 : decode cX10_crime 8 = .ok (.i2l, 1) := by decide +kernel
theorem dX10_crime_9 : decode cX10_crime 9 = .ok (.lconst 1, 1) := by decide +kernel
theorem dX10_crime_10 : decode cX10_crime 10 = .ok (.ldc2_w 87, 3) := by decide +kernel
theorem dX10_crime_13 : decode cX10_crime 13 = .ok (.invokestatic 69, 3) := by decide +kernel
theorem dX10_crime_16 : decode cX10_crime 16 = .ok (.ifCond .eq 47, 3) := by decide +kernel
theorem dX10_crime_19 : decode cX10_crime 19 = .ok (.iload_n 3, 1) := by decide +kernel
theorem dX10_crime_20 : decode cX10_crime 20 = .ok (.i2l, 1) := by decide +kernel
theorem dX10_crime_21 : decode cX10_crime 21 = .ok (.lconst 0, 1) := by decide +kernel
theorem dX10_crime_22 : decode cX10_crime 22 = .ok (.ldc2_w 87, 3) := by decide +kernel
theorem dX10_crime_25 : decode cX10_crime 25 = .ok (.invokestatic 69, 3) := by decide +kernel
theorem dX10_crime_28 : decode cX10_crime 28 = .ok (.ifCond .eq 35, 3) := by decide +kernel
theorem dX10_crime_31 : decode cX10_crime 31 = .ok (.iload_n 2, 1) := by decide +kernel
theorem dX10_crime_32 : decode cX10_crime 32 = .ok (.iload_n 3, 1) := by decide +kernel
theorem dX10_crime_33 : decode cX10_crime 33 = .ok (.iand, 1) := by decide +kernel
theorem dX10_crime_34 : decode cX10_crime 34 = .ok (.ifCond .ne 29, 3) := by decide +kernel
theorem dX10_crime_37 : decode cX10_crime 37 = .ok (.iload 5, 2) := by decide +kernel
theorem dX10_crime_39 : decode cX10_crime 39 = .ok (.i2l, 1) := by decide +kernel
theorem dX10_crime_40 : decode cX10_crime 40 = .ok (.lconst 1, 1) := by decide +kernel
theorem dX10_crime_41 : decode cX10_crime 41 = .ok (.ldc2_w 89, 3) := by decide +kernel
theorem dX10_crime_44 : decode cX10_crime 44 = .ok (.invokestatic 69, 3) := by decide +kernel
theorem dX10_crime_47 : decode cX10_crime 47 = .ok (.ifCond .eq 16, 3) := by decide +kernel
theorem dX10_crime_50 : decode cX10_crime 50 = .ok (.iload 4, 2) := by decide +kernel
theorem dX10_crime_52 : decode cX10_crime 52 = .ok (.i2l, 1) := by decide +kernel
theorem dX10_crime_53 : decode cX10_crime 53 = .ok (.lconst 0, 1) := by decide +kernel
theorem dX10_crime_54 : decode cX10_crime 54 = .ok (.iload 5, 2) := by decide +kernel
theorem dX10_crime_56 : decode cX10_crime 56 = .ok (.i2l, 1) := by decide +kernel
theorem dX10_crime_57 : decode cX10_crime 57 = .ok (.invokestatic 69, 3) := by decide +kernel
theorem dX10_crime_60 : decode cX10_crime 60 = .ok (.ifCond .ne 5, 3) := by decide +kernel
theorem dX10_crime_63 : decode cX10_crime 63 = .ok (.iconst (-1), 1) := by decide +kernel
theorem dX10_crime_64 : decode cX10_crime 64 = .ok (.ireturn, 1) := by decide +kernel
theorem dX10_crime_65 : decode cX10_crime 65 = .ok (.aload_n 0, 1) := by decide +kernel
theorem dX10_crime_66 : decode cX10_crime 66 = .ok (.getfield 80, 3) := by decide +kernel
theorem dX10_crime_69 : decode cX10_crime 69 = .ok (.bipush 24, 2) := by decide +kernel
theorem dX10_crime_71 : decode cX10_crime 71 = .ok (.if_icmp .ne 6, 3) := by decide +kernel
theorem dX10_crime_74 : decode cX10_crime 74 = .ok (.bipush (-3), 2) := by decide +kernel
theorem dX10_crime_76 : decode cX10_crime 76 = .ok (.ireturn, 1) := by decide +kernel
theorem dX10_crime_77 : decode cX10_crime 77 = .ok (.aload_n 0, 1) := by decide +kernel
theorem dX10_crime_78 : decode cX10_crime 78 = .ok (.iload_n 1, 1) := by decide +kernel
theorem dX10_crime_79 : decode cX10_crime 79 = .ok (.iload_n 2, 1) := by decide +kernel
theorem dX10_crime_80 : decode cX10_crime 80 = .ok (.iload_n 3, 1) := by decide +kernel
theorem dX10_crime_81 : decode cX10_crime 81 = .ok (.iload 4, 2) := by decide +kernel
theorem dX10_crime_83 : decode cX10_crime 83 = .ok (.iload 5, 2) := by decide +kernel
theorem dX10_crime_85 : decode cX10_crime 85 = .ok (.iload 6, 2) := by decide +kernel
theorem dX10_crime_87 : decode cX10_crime 87 = .ok (.ifCond .eq 7, 3) := by decide +kernel
theorem dX10_crime_90 : decode cX10_crime 90 = .ok (.iconst 1, 1) := by decide +kernel
theorem dX10_crime_91 : decode cX10_crime 91 = .ok (.goto 4, 3) := by decide +kernel
theorem dX10_crime_94 : decode cX10_crime 94 = .ok (.iconst 0, 1) := by decide +kernel
theorem dX10_crime_95 : decode cX10_crime 95 = .ok (.invokevirtual 91, 3) := by decide +kernel
theorem dX10_crime_98 : decode cX10_crime 98 = .ok (.aload_n 0, 1) := by decide +kernel
theorem dX10_crime_99 : decode cX10_crime 99 = .ok (.getfield 80, 3) := by decide +kernel
theorem dX10_crime_102 : decode cX10_crime 102 = .ok (.iconst 1, 1) := by decide +kernel
theorem dX10_crime_103 : decode cX10_crime 103 = .ok (.isub, 1) := by decide +kernel
theorem dX10_crime_104 : decode cX10_crime 104 = .ok (.ireturn, 1) := by decide +kernel
theorem dX10_deed_0 : decode cX10_deed 0 = .ok (.iload_n 1, 1) := by decide +kernel
theorem dX10_deed_1 : decode cX10_deed 1 = .ok (.i2l, 1) := by decide +kernel
theorem dX10_deed_2 : decode cX10_deed 2 = .ok (.lconst 1, 1) := by decide +kernel
theorem dX10_deed_3 : decode cX10_deed 3 = .ok (.ldc2_w 87, 3) := by decide +kernel
theorem dX10_deed_6 : decode cX10_deed 6 = .ok (.invokestatic 69, 3) := by decide +kernel
theorem dX10_deed_9 : decode cX10_deed 9 = .ok (.ifCond .eq 35, 3) := by decide +kernel
theorem dX10_deed_12 : decode cX10_deed 12 = .ok (.iload_n 2, 1) := by decide +kernel
theorem dX10_deed_13 : decode cX10_deed 13 = .ok (.i2l, 1) := by decide +kernel
theorem dX10_deed_14 : decode cX10_deed 14 = .ok (.lconst 0, 1) := by decide +kernel
theorem dX10_deed_15 : decode cX10_deed 15 = .ok (.ldc2_w 87, 3) := by decide +kernel
theorem dX10_deed_18 : decode cX10_deed 18 = .ok (.invokestatic 69, 3) := by decide +kernel
theorem dX10_deed_21 : decode cX10_deed 21 = .ok (.ifCond .eq 23, 3) := by decide +kernel
theorem dX10_deed_24 : decode cX10_deed 24 = .ok (.iload_n 3, 1) := by decide +kernel
theorem dX10_deed_25 : decode cX10_deed 25 = .ok (.invokestatic 83, 3) := by decide +kernel
theorem dX10_deed_28 : decode cX10_deed 28 = .ok (.ifCond .eq 16, 3) := by decide +kernel
theorem dX10_deed_31 : decode cX10_deed 31 = .ok (.iload 4, 2) := by decide +kernel
theorem dX10_deed_33 : decode cX10_deed 33 = .ok (.i2l, 1) := by decide +kernel
theorem dX10_deed_34 : decode cX10_deed 34 = .ok (.lconst 0, 1) := by decide +kernel
theorem dX10_deed_35 : decode cX10_deed 35 = .ok (.ldc2_w 95, 3) := by decide +kernel
theorem dX10_deed_38 : decode cX10_deed 38 = .ok (.invokestatic 69, 3) := by decide +kernel
theorem dX10_deed_41 : decode cX10_deed 41 = .ok (.ifCond .ne 5, 3) := by decide +kernel
theorem dX10_deed_44 : decode cX10_deed 44 = .ok (.iconst (-1), 1) := by decide +kernel
theorem dX10_deed_45 : decode cX10_deed 45 = .ok (.ireturn, 1) := by decide +kernel
theorem dX10_deed_46 : decode cX10_deed 46 = .ok (.aload_n 0, 1) := by decide +kernel
theorem dX10_deed_47 : decode cX10_deed 47 = .ok (.getfield 73, 3) := by decide +kernel
theorem dX10_deed_50 : decode cX10_deed 50 = .ok (.bipush 8, 2) := by decide +kernel
theorem dX10_deed_52 : decode cX10_deed 52 = .ok (.if_icmp .ne 6, 3) := by decide +kernel
theorem dX10_deed_55 : decode cX10_deed 55 = .ok (.bipush (-3), 2) := by decide +kernel
theorem dX10_deed_57 : decode cX10_deed 57 = .ok (.ireturn, 1) := by decide +kernel
theorem dX10_deed_58 : decode cX10_deed 58 = .ok (.aload_n 0, 1) := by decide +kernel
theorem dX10_deed_59 : decode cX10_deed 59 = .ok (.getfield 13, 3) := by decide +kernel
theorem dX10_deed_62 : decode cX10_deed 62 = .ok (.iconst 5, 1) := by decide +kernel
theorem dX10_deed_63 : decode cX10_deed 63 = .ok (.aload_n 0, 1) := by decide +kernel
theorem dX10_deed_64 : decode cX10_deed 64 = .ok (.getfield 73, 3) := by decide +kernel
theorem dX10_deed_67 : decode cX10_deed 67 = .ok (.imul, 1) := by decide +kernel
theorem dX10_deed_68 : decode cX10_deed 68 = .ok (.iload_n 1, 1) := by decide +kernel
theorem dX10_deed_69 : decode cX10_deed 69 = .ok (.iastore, 1) := by decide +kernel
theorem dX10_deed_70 : decode cX10_deed 70 = .ok (.aload_n 0, 1) := by decide +kernel
theorem dX10_deed_71 : decode cX10_deed 71 = .ok (.getfield 13, 3) := by decide +kernel
theorem dX10_deed_74 : decode cX10_deed 74 = .ok (.iconst 5, 1) := by decide +kernel
theorem dX10_deed_75 : decode cX10_deed 75 = .ok (.aload_n 0, 1) := by decide +kernel
theorem dX10_deed_76 : decode cX10_deed 76 = .ok (.getfield 73, 3) := by decide +kernel
theorem dX10_deed_79 : decode cX10_deed 79 = .ok (.imul, 1) := by decide +kernel
theorem dX10_deed_80 : decode cX10_deed 80 = .ok (.iconst 1, 1) := by decide +kernel
theorem dX10_deed_81 : decode cX10_deed 81 = .ok (.iadd, 1) := by decide +kernel
theorem dX10_deed_82 : decode cX10_deed 82 = .ok (.iload_n 2, 1) := by decide +kernel
theorem dX10_deed_83 : decode cX10_deed 83 = .ok (.iastore, 1) := by decide +kernel
theorem dX10_deed_84 : decode cX10_deed 84 = .ok (.aload_n 0, 1) := by decide +kernel
theorem dX10_deed_85 : decode cX10_deed 85 = .ok (.getfield 13, 3) := by decide +kernel
theorem dX10_deed_88 : decode cX10_deed 88 = .ok (.iconst 5, 1) := by decide +kernel
theorem dX10_deed_89 : decode cX10_deed 89 = .ok (.aload_n 0, 1) := by decide +kernel
theorem dX10_deed_90 : decode cX10_deed 90 = .ok (.getfield 73, 3) := by decide +kernel
theorem dX10_deed_93 : decode cX10_deed 93 = .ok (.imul, 1) := by decide +kernel
theorem dX10_deed_94 : decode cX10_deed 94 = .ok (.iconst 2, 1) := by decide +kernel
theorem dX10_deed_95 : decode cX10_deed 95 = .ok (.iadd, 1) := by decide +kernel
theorem dX10_deed_96 : decode cX10_deed 96 = .ok (.iload_n 3, 1) := by decide +kernel
theorem dX10_deed_97 : decode cX10_deed 97 = .ok (.iastore, 1) := by decide +kernel
theorem dX10_deed_98 : decode cX10_deed 98 = .ok (.aload_n 0, 1) := by decide +kernel
theorem dX10_deed_99 : decode cX10_deed 99 = .ok (.getfield 13, 3) := by decide +kernel
theorem dX10_deed_102 : decode cX10_deed 102 = .ok (.iconst 5, 1) := by decide +kernel
theorem dX10_deed_103 : decode cX10_deed 103 = .ok (.aload_n 0, 1) := by decide +kernel
theorem dX10_deed_104 : decode cX10_deed 104 = .ok (.getfield 73, 3) := by decide +kernel
theorem dX10_deed_107 : decode cX10_deed 107 = .ok (.imul, 1) := by decide +kernel
theorem dX10_deed_108 : decode cX10_deed 108 = .ok (.iconst 3, 1) := by decide +kernel
theorem dX10_deed_109 : decode cX10_deed 109 = .ok (.iadd, 1) := by decide +kernel
theorem dX10_deed_110 : decode cX10_deed 110 = .ok (.iload 4, 2) := by decide +kernel
theorem dX10_deed_112 : decode cX10_deed 112 = .ok (.iastore, 1) := by decide +kernel
theorem dX10_deed_113 : decode cX10_deed 113 = .ok (.aload_n 0, 1) := by decide +kernel
theorem dX10_deed_114 : decode cX10_deed 114 = .ok (.getfield 13, 3) := by decide +kernel
theorem dX10_deed_117 : decode cX10_deed 117 = .ok (.iconst 5, 1) := by decide +kernel
theorem dX10_deed_118 : decode cX10_deed 118 = .ok (.aload_n 0, 1) := by decide +kernel
theorem dX10_deed_119 : decode cX10_deed 119 = .ok (.getfield 73, 3) := by decide +kernel
theorem dX10_deed_122 : decode cX10_deed 122 = .ok (.imul, 1) := by decide +kernel
theorem dX10_deed_123 : decode cX10_deed 123 = .ok (.iconst 4, 1) := by decide +kernel
theorem dX10_deed_124 : decode cX10_deed 124 = .ok (.iadd, 1) := by decide +kernel
theorem dX10_deed_125 : decode cX10_deed 125 = .ok (.iconst 0, 1) := by decide +kernel
theorem dX10_deed_126 : decode cX10_deed 126 = .ok (.iastore, 1) := by decide +kernel
theorem dX10_deed_127 : decode cX10_deed 127 = .ok (.aload_n 0, 1) := by decide +kernel
theorem dX10_deed_128 : decode cX10_deed 128 = .ok (.dup, 1) := by decide +kernel
theorem dX10_deed_129 : decode cX10_deed 129 = .ok (.getfield 73, 3) := by decide +kernel
theorem dX10_deed_132 : decode cX10_deed 132 = .ok (.iconst 1, 1) := by decide +kernel
theorem dX10_deed_133 : decode cX10_deed 133 = .ok (.iadd, 1) := by decide +kernel
theorem dX10_deed_134 : decode cX10_deed 134 = .ok (.putfield 73, 3) := by decide +kernel
theorem dX10_deed_137 : decode cX10_deed 137 = .ok (.aload_n 0, 1) := by decide +kernel
theorem dX10_deed_138 : decode cX10_deed 138 = .ok (.getfield 73, 3) := by decide +kernel
theorem dX10_deed_141 : decode cX10_deed 141 = .ok (.iconst 1, 1) := by decide +kernel
theorem dX10_deed_142 : decode cX10_deed 142 = .ok (.isub, 1) := by decide +kernel
theorem dX10_deed_143 : decode cX10_deed 143 = .ok (.ireturn, 1) := by decide +kernel
theorem dX10_mayBe_0 : decode cX10_mayBe 0 = .ok (.iload_n 0, 1) := by decide +kernel
theorem dX10_mayBe_1 : decode cX10_mayBe 1 = .ok (.invokestatic 83, 3) := by decide +kernel
theorem dX10_mayBe_4 : decode cX10_mayBe 4 = .ok (.ifCond .eq 56, 3) := by decide +kernel
theorem dX10_mayBe_7 : decode cX10_mayBe 7 = .ok (.iload_n 1, 1) := by decide +kernel
theorem dX10_mayBe_8 : decode cX10_mayBe 8 = .ok (.invokestatic 83, 3) := by decide +kernel
theorem dX10_mayBe_11 : decode cX10_mayBe 11 = .ok (.ifCond .eq 49, 3) := by decide +kernel
theorem dX10_mayBe_14 : decode cX10_mayBe 14 = .ok (.iload_n 0, 1) := by decide +kernel
theorem dX10_mayBe_15 : decode cX10_mayBe 15 = .ok (.iload_n 1, 1) := by decide +kernel
theorem dX10_mayBe_16 : decode cX10_mayBe 16 = .ok (.if_icmp .eq 44, 3) := by decide +kernel
theorem dX10_mayBe_19 : decode cX10_mayBe 19 = .ok (.iload_n 2, 1) := by decide +kernel
theorem dX10_mayBe_20 : decode cX10_mayBe 20 = .ok (.i2l, 1) := by decide +kernel
theorem dX10_mayBe_21 : decode cX10_mayBe 21 = .ok (.lconst 0, 1) := by decide +kernel
theorem dX10_mayBe_22 : decode cX10_mayBe 22 = .ok (.ldc2_w 97, 3) := by decide +kernel
theorem dX10_mayBe_25 : decode cX10_mayBe 25 = .ok (.invokestatic 69, 3) := by decide +kernel
theorem dX10_mayBe_28 : decode cX10_mayBe 28 = .ok (.ifCond .eq 32, 3) := by decide +kernel
theorem dX10_mayBe_31 : decode cX10_mayBe 31 = .ok (.iload_n 3, 1) := by decide +kernel
theorem dX10_mayBe_32 : decode cX10_mayBe 32 = .ok (.i2l, 1) := by decide +kernel
theorem dX10_mayBe_33 : decode cX10_mayBe 33 = .ok (.lconst 0, 1) := by decide +kernel
theorem dX10_mayBe_34 : decode cX10_mayBe 34 = .ok (.ldc2_w 95, 3) := by decide +kernel
theorem dX10_mayBe_37 : decode cX10_mayBe 37 = .ok (.invokestatic 69, 3) := by decide +kernel
theorem dX10_mayBe_40 : decode cX10_mayBe 40 = .ok (.ifCond .eq 20, 3) := by decide +kernel
theorem dX10_mayBe_43 : decode cX10_mayBe 43 = .ok (.iload 4, 2) := by decide +kernel
theorem dX10_mayBe_45 : decode cX10_mayBe 45 = .ok (.i2l, 1) := by decide +kernel
theorem dX10_mayBe_46 : decode cX10_mayBe 46 = .ok (.lconst 0, 1) := by decide +kernel
theorem dX10_mayBe_47 : decode cX10_mayBe 47 = .ok (.ldc2_w 99, 3) := by decide +kernel
theorem dX10_mayBe_50 : decode cX10_mayBe 50 = .ok (.invokestatic 69, 3) := by decide +kernel
theorem dX10_mayBe_53 : decode cX10_mayBe 53 = .ok (.ifCond .eq 7, 3) := by decide +kernel
theorem dX10_mayBe_56 : decode cX10_mayBe 56 = .ok (.iconst 1, 1) := by decide +kernel
theorem dX10_mayBe_57 : decode cX10_mayBe 57 = .ok (.goto 4, 3) := by decide +kernel
theorem dX10_mayBe_60 : decode cX10_mayBe 60 = .ok (.iconst 0, 1) := by decide +kernel
theorem dX10_mayBe_61 : decode cX10_mayBe 61 = .ok (.ireturn, 1) := by decide +kernel
theorem dX10_addPaper_0 : decode cX10_addPaper 0 = .ok (.aload_n 0, 1) := by decide +kernel
theorem dX10_addPaper_1 : decode cX10_addPaper 1 = .ok (.getfield 77, 3) := by decide +kernel
theorem dX10_addPaper_4 : decode cX10_addPaper 4 = .ok (.bipush 12, 2) := by decide +kernel
theorem dX10_addPaper_6 : decode cX10_addPaper 6 = .ok (.if_icmp .ne 6, 3) := by decide +kernel
theorem dX10_addPaper_9 : decode cX10_addPaper 9 = .ok (.bipush (-3), 2) := by decide +kernel
theorem dX10_addPaper_11 : decode cX10_addPaper 11 = .ok (.ireturn, 1) := by decide +kernel
theorem dX10_addPaper_12 : decode cX10_addPaper 12 = .ok (.bipush 8, 2) := by decide +kernel
theorem dX10_addPaper_14 : decode cX10_addPaper 14 = .ok (.aload_n 0, 1) := by decide +kernel
theorem dX10_addPaper_15 : decode cX10_addPaper 15 = .ok (.getfield 77, 3) := by decide +kernel
theorem dX10_addPaper_18 : decode cX10_addPaper 18 = .ok (.imul, 1) := by decide +kernel
theorem dX10_addPaper_19 : decode cX10_addPaper 19 = .ok (.istore 9, 2) := by decide +kernel
theorem dX10_addPaper_21 : decode cX10_addPaper 21 = .ok (.aload_n 0, 1) := by decide +kernel
theorem dX10_addPaper_22 : decode cX10_addPaper 22 = .ok (.getfield 16, 3) := by decide +kernel
theorem dX10_addPaper_25 : decode cX10_addPaper 25 = .ok (.iload 9, 2) := by decide +kernel
theorem dX10_addPaper_27 : decode cX10_addPaper 27 = .ok (.iload_n 1, 1) := by decide +kernel
theorem dX10_addPaper_28 : decode cX10_addPaper 28 = .ok (.iastore, 1) := by decide +kernel
theorem dX10_addPaper_29 : decode cX10_addPaper 29 = .ok (.aload_n 0, 1) := by decide +kernel
theorem dX10_addPaper_30 : decode cX10_addPaper 30 = .ok (.getfield 16, 3) := by decide +kernel
theorem dX10_addPaper_33 : decode cX10_addPaper 33 = .ok (.iload 9, 2) := by decide +kernel
theorem dX10_addPaper_35 : decode cX10_addPaper 35 = .ok (.iconst 1, 1) := by decide +kernel
theorem dX10_addPaper_36 : decode cX10_addPaper 36 = .ok (.iadd, 1) := by decide +kernel
theorem dX10_addPaper_37 : decode cX10_addPaper 37 = .ok (.iload_n 2, 1) := by decide +kernel
theorem dX10_addPaper_38 : decode cX10_addPaper 38 = .ok (.iastore, 1) := by decide +kernel
theorem dX10_addPaper_39 : decode cX10_addPaper 39 = .ok (.aload_n 0, 1) := by decide +kernel
theorem dX10_addPaper_40 : decode cX10_addPaper 40 = .ok (.getfield 16, 3) := by decide +kernel
theorem dX10_addPaper_43 : decode cX10_addPaper 43 = .ok (.iload 9, 2) := by decide +kernel
theorem dX10_addPaper_45 : decode cX10_addPaper 45 = .ok (.iconst 2, 1) := by decide +kernel
theorem dX10_addPaper_46 : decode cX10_addPaper 46 = .ok (.iadd, 1) := by decide +kernel
theorem dX10_addPaper_47 : decode cX10_addPaper 47 = .ok (.iload_n 3, 1) := by decide +kernel
theorem dX10_addPaper_48 : decode cX10_addPaper 48 = .ok (.iastore, 1) := by decide +kernel
theorem dX10_addPaper_49 : decode cX10_addPaper 49 = .ok (.aload_n 0, 1) := by decide +kernel
theorem dX10_addPaper_50 : decode cX10_addPaper 50 = .ok (.getfield 16, 3) := by decide +kernel
theorem dX10_addPaper_53 : decode cX10_addPaper 53 = .ok (.iload 9, 2) := by decide +kernel
theorem dX10_addPaper_55 : decode cX10_addPaper 55 = .ok (.iconst 3, 1) := by decide +kernel
theorem dX10_addPaper_56 : decode cX10_addPaper 56 = .ok (.iadd, 1) := by decide +kernel
theorem dX10_addPaper_57 : decode cX10_addPaper 57 = .ok (.iload 4, 2) := by decide +kernel
theorem dX10_addPaper_59 : decode cX10_addPaper 59 = .ok (.iastore, 1) := by decide +kernel
theorem dX10_addPaper_60 : decode cX10_addPaper 60 = .ok (.aload_n 0, 1) := by decide +kernel
theorem dX10_addPaper_61 : decode cX10_addPaper 61 = .ok (.getfield 16, 3) := by decide +kernel
theorem dX10_addPaper_64 : decode cX10_addPaper 64 = .ok (.iload 9, 2) := by decide +kernel
theorem dX10_addPaper_66 : decode cX10_addPaper 66 = .ok (.iconst 4, 1) := by decide +kernel
theorem dX10_addPaper_67 : decode cX10_addPaper 67 = .ok (.iadd, 1) := by decide +kernel
theorem dX10_addPaper_68 : decode cX10_addPaper 68 = .ok (.iload 5, 2) := by decide +kernel
theorem dX10_addPaper_70 : decode cX10_addPaper 70 = .ok (.iastore, 1) := by decide +kernel
theorem dX10_addPaper_71 : decode cX10_addPaper 71 = .ok (.aload_n 0, 1) := by decide +kernel
theorem dX10_addPaper_72 : decode cX10_addPaper 72 = .ok (.getfield 16, 3) := by decide +kernel
theorem dX10_addPaper_75 : decode cX10_addPaper 75 = .ok (.iload 9, 2) := by decide +kernel
theorem dX10_addPaper_77 : decode cX10_addPaper 77 = .ok (.iconst 5, 1) := by decide +kernel
theorem dX10_addPaper_78 : decode cX10_addPaper 78 = .ok (.iadd, 1) := by decide +kernel
theorem dX10_addPaper_79 : decode cX10_addPaper 79 = .ok (.iload 6, 2) := by decide +kernel
theorem dX10_addPaper_81 : decode cX10_addPaper 81 = .ok (.iastore, 1) := by decide +kernel
theorem dX10_addPaper_82 : decode cX10_addPaper 82 = .ok (.aload_n 0, 1) := by decide +kernel
theorem dX10_addPaper_83 : decode cX10_addPaper 83 = .ok (.getfield 16, 3) := by decide +kernel
theorem dX10_addPaper_86 : decode cX10_addPaper 86 = .ok (.iload 9, 2) := by decide +kernel
theorem dX10_addPaper_88 : decode cX10_addPaper 88 = .ok (.bipush 6, 2) := by decide +kernel
theorem dX10_addPaper_90 : decode cX10_addPaper 90 = .ok (.iadd, 1) := by decide +kernel
theorem dX10_addPaper_91 : decode cX10_addPaper 91 = .ok (.iload 7, 2) := by decide +kernel
theorem dX10_addPaper_93 : decode cX10_addPaper 93 = .ok (.iastore, 1) := by decide +kernel
theorem dX10_addPaper_94 : decode cX10_addPaper 94 = .ok (.aload_n 0, 1) := by decide +kernel
theorem dX10_addPaper_95 : decode cX10_addPaper 95 = .ok (.getfield 16, 3) := by decide +kernel
theorem dX10_addPaper_98 : decode cX10_addPaper 98 = .ok (.iload 9, 2) := by decide +kernel
theorem dX10_addPaper_100 : decode cX10_addPaper 100 = .ok (.bipush 7, 2) := by decide +kernel
theorem dX10_addPaper_102 : decode cX10_addPaper 102 = .ok (.iadd, 1) := by decide +kernel
theorem dX10_addPaper_103 : decode cX10_addPaper 103 = .ok (.iload 8, 2) := by decide +kernel
theorem dX10_addPaper_105 : decode cX10_addPaper 105 = .ok (.iastore, 1) := by decide +kernel
theorem dX10_addPaper_106 : decode cX10_addPaper 106 = .ok (.aload_n 0, 1) := by decide +kernel
theorem dX10_addPaper_107 : decode cX10_addPaper 107 = .ok (.dup, 1) := by decide +kernel
theorem dX10_addPaper_108 : decode cX10_addPaper 108 = .ok (.getfield 77, 3) := by decide +kernel
theorem dX10_addPaper_111 : decode cX10_addPaper 111 = .ok (.iconst 1, 1) := by decide +kernel
theorem dX10_addPaper_112 : decode cX10_addPaper 112 = .ok (.iadd, 1) := by decide +kernel
theorem dX10_addPaper_113 : decode cX10_addPaper 113 = .ok (.putfield 77, 3) := by decide +kernel
theorem dX10_addPaper_116 : decode cX10_addPaper 116 = .ok (.aload_n 0, 1) := by decide +kernel
theorem dX10_addPaper_117 : decode cX10_addPaper 117 = .ok (.getfield 77, 3) := by decide +kernel
theorem dX10_addPaper_120 : decode cX10_addPaper 120 = .ok (.iconst 1, 1) := by decide +kernel
theorem dX10_addPaper_121 : decode cX10_addPaper 121 = .ok (.isub, 1) := by decide +kernel
theorem dX10_addPaper_122 : decode cX10_addPaper 122 = .ok (.ireturn, 1) := by decide +kernel
theorem dX10_years_0 : decode cX10_years 0 = .ok (.iload_n 1, 1) := by decide +kernel
theorem dX10_years_1 : decode cX10_years 1 = .ok (.iload_n 2, 1) := by decide +kernel
theorem dX10_years_2 : decode cX10_years 2 = .ok (.iload 4, 2) := by decide +kernel
theorem dX10_years_4 : decode cX10_years 4 = .ok (.iload 5, 2) := by decide +kernel
theorem dX10_years_6 : decode cX10_years 6 = .ok (.iload 6, 2) := by decide +kernel
theorem dX10_years_8 : decode cX10_years 8 = .ok (.invokestatic 101, 3) := by decide +kernel
theorem dX10_years_11 : decode cX10_years 11 = .ok (.ifCond .eq 33, 3) := by decide +kernel
theorem dX10_years_14 : decode cX10_years 14 = .ok (.iload_n 3, 1) := by decide +kernel
theorem dX10_years_15 : decode cX10_years 15 = .ok (.i2l, 1) := by decide +kernel
theorem dX10_years_16 : decode cX10_years 16 = .ok (.lconst 1, 1) := by decide +kernel
theorem dX10_years_17 : decode cX10_years 17 = .ok (.ldc2_w 89, 3) := by decide +kernel
theorem dX10_years_20 : decode cX10_years 20 = .ok (.invokestatic 69, 3) := by decide +kernel
theorem dX10_years_23 : decode cX10_years 23 = .ok (.ifCond .eq 21, 3) := by decide +kernel
theorem dX10_years_26 : decode cX10_years 26 = .ok (.aload_n 0, 1) := by decide +kernel
theorem dX10_years_27 : decode cX10_years 27 = .ok (.iconst 0, 1) := by decide +kernel
theorem dX10_years_28 : decode cX10_years 28 = .ok (.iload_n 1, 1) := by decide +kernel
theorem dX10_years_29 : decode cX10_years 29 = .ok (.iload_n 2, 1) := by decide +kernel
theorem dX10_years_30 : decode cX10_years 30 = .ok (.iload_n 3, 1) := by decide +kernel
theorem dX10_years_31 : decode cX10_years 31 = .ok (.iconst 0, 1) := by decide +kernel
theorem dX10_years_32 : decode cX10_years 32 = .ok (.iload 4, 2) := by decide +kernel
theorem dX10_years_34 : decode cX10_years 34 = .ok (.iload 5, 2) := by decide +kernel
theorem dX10_years_36 : decode cX10_years 36 = .ok (.iload 6, 2) := by decide +kernel
theorem dX10_years_38 : decode cX10_years 38 = .ok (.invokevirtual 105, 3) := by decide +kernel
theorem dX10_years_41 : decode cX10_years 41 = .ok (.goto 4, 3) := by decide +kernel
theorem dX10_years_44 : decode cX10_years 44 = .ok (.iconst (-1), 1) := by decide +kernel
theorem dX10_years_45 : decode cX10_years 45 = .ok (.ireturn, 1) := by decide +kernel
theorem dX10_named_0 : decode cX10_named 0 = .ok (.iload_n 1, 1) := by decide +kernel
theorem dX10_named_1 : decode cX10_named 1 = .ok (.iload_n 2, 1) := by decide +kernel
theorem dX10_named_2 : decode cX10_named 2 = .ok (.iload 4, 2) := by decide +kernel
theorem dX10_named_4 : decode cX10_named 4 = .ok (.iload 5, 2) := by decide +kernel
theorem dX10_named_6 : decode cX10_named 6 = .ok (.iload 6, 2) := by decide +kernel
theorem dX10_named_8 : decode cX10_named 8 = .ok (.invokestatic 101, 3) := by decide +kernel
theorem dX10_named_11 : decode cX10_named 11 = .ok (.ifCond .eq 25, 3) := by decide +kernel
theorem dX10_named_14 : decode cX10_named 14 = .ok (.iload_n 3, 1) := by decide +kernel
theorem dX10_named_15 : decode cX10_named 15 = .ok (.i2l, 1) := by decide +kernel
theorem dX10_named_16 : decode cX10_named 16 = .ok (.lconst 1, 1) := by decide +kernel
theorem dX10_named_17 : decode cX10_named 17 = .ok (.iconst 1, 1) := by decide +kernel
theorem dX10_named_18 : decode cX10_named 18 = .ok (.aload_n 0, 1) := by decide +kernel
theorem dX10_named_19 : decode cX10_named 19 = .ok (.getfield 80, 3) := by decide +kernel
theorem dX10_named_22 : decode cX10_named 22 = .ok (.ishl, 1) := by decide +kernel
theorem dX10_named_23 : decode cX10_named 23 = .ok (.iconst 1, 1) := by decide +kernel
theorem dX10_named_24 : decode cX10_named 24 = .ok (.isub, 1) := by decide +kernel
theorem dX10_named_25 : decode cX10_named 25 = .ok (.i2l, 1) := by decide +kernel
theorem dX10_named_26 : decode cX10_named 26 = .ok (.invokestatic 69, 3) := by decide +kernel
theorem dX10_named_29 : decode cX10_named 29 = .ok (.ifCond .eq 7, 3) := by decide +kernel
theorem dX10_named_32 : decode cX10_named 32 = .ok (.iconst 1, 1) := by decide +kernel
theorem dX10_named_33 : decode cX10_named 33 = .ok (.goto 4, 3) := by decide +kernel
theorem dX10_named_36 : decode cX10_named 36 = .ok (.iconst 0, 1) := by decide +kernel
theorem dX10_named_37 : decode cX10_named 37 = .ok (.istore 7, 2) := by decide +kernel
theorem dX10_named_39 : decode cX10_named 39 = .ok (.iconst 0, 1) := by decide +kernel
theorem dX10_named_40 : decode cX10_named 40 = .ok (.istore 8, 2) := by decide +kernel
theorem dX10_named_42 : decode cX10_named 42 = .ok (.iload 8, 2) := by decide +kernel
theorem dX10_named_44 : decode cX10_named 44 = .ok (.aload_n 0, 1) := by decide +kernel
theorem dX10_named_45 : decode cX10_named 45 = .ok (.getfield 80, 3) := by decide +kernel
theorem dX10_named_48 : decode cX10_named 48 = .ok (.if_icmp .ge 44, 3) := by decide +kernel
theorem dX10_named_51 : decode cX10_named 51 = .ok (.iload 7, 2) := by decide +kernel
theorem dX10_named_53 : decode cX10_named 53 = .ok (.ifCond .eq 39, 3) := by decide +kernel
theorem dX10_named_56 : decode cX10_named 56 = .ok (.iload_n 3, 1) := by decide +kernel
theorem dX10_named_57 : decode cX10_named 57 = .ok (.iload 8, 2) := by decide +kernel
theorem dX10_named_59 : decode cX10_named 59 = .ok (.ishr, 1) := by decide +kernel
theorem dX10_named_60 : decode cX10_named 60 = .ok (.iconst 1, 1) := by decide +kernel
theorem dX10_named_61 : decode cX10_named 61 = .ok (.iand, 1) := by decide +kernel
theorem dX10_named_62 : decode cX10_named 62 = .ok (.ifCond .eq 17, 3) := by decide +kernel
theorem dX10_named_65 : decode cX10_named 65 = .ok (.aload_n 0, 1) := by decide +kernel
theorem dX10_named_66 : decode cX10_named 66 = .ok (.getfield 7, 3) := by decide +kernel
theorem dX10_named_69 : decode cX10_named 69 = .ok (.bipush 6, 2) := by decide +kernel
theorem dX10_named_71 : decode cX10_named 71 = .ok (.iload 8, 2) := by decide +kernel
theorem dX10_named_73 : decode cX10_named 73 = .ok (.imul, 1) := by decide +kernel
theorem dX10_named_74 : decode cX10_named 74 = .ok (.iaload, 1) := by decide +kernel
theorem dX10_named_75 : decode cX10_named 75 = .ok (.iload_n 2, 1) := by decide +kernel
theorem dX10_named_76 : decode cX10_named 76 = .ok (.if_icmp .ne 7, 3) := by decide +kernel
theorem dX10_named_79 : decode cX10_named 79 = .ok (.iconst 1, 1) := by decide +kernel
theorem dX10_named_80 : decode cX10_named 80 = .ok (.goto 4, 3) := by decide +kernel
theorem dX10_named_83 : decode cX10_named 83 = .ok (.iconst 0, 1) := by decide +kernel
theorem dX10_named_84 : decode cX10_named 84 = .ok (.istore 7, 2) := by decide +kernel
theorem dX10_named_86 : decode cX10_named 86 = .ok (.iinc 8 1, 3) := by decide +kernel
theorem dX10_named_89 : decode cX10_named 89 = .ok (.goto (-47), 3) := by decide +kernel
theorem dX10_named_92 : decode cX10_named 92 = .ok (.iload 7, 2) := by decide +kernel
theorem dX10_named_94 : decode cX10_named 94 = .ok (.ifCond .eq 21, 3) := by decide +kernel
theorem dX10_named_97 : decode cX10_named 97 = .ok (.aload_n 0, 1) := by decide +kernel
theorem dX10_named_98 : decode cX10_named 98 = .ok (.iconst 1, 1) := by decide +kernel
theorem dX10_named_99 : decode cX10_named 99 = .ok (.iload_n 1, 1) := by decide +kernel
theorem dX10_named_100 : decode cX10_named 100 = .ok (.iload_n 2, 1) := by decide +kernel
theorem dX10_named_101 : decode cX10_named 101 = .ok (.iconst 1, 1) := by decide +kernel
theorem dX10_named_102 : decode cX10_named 102 = .ok (.iload_n 3, 1) := by decide +kernel
theorem dX10_named_103 : decode cX10_named 103 = .ok (.iload 4, 2) := by decide +kernel
theorem dX10_named_105 : decode cX10_named 105 = .ok (.iload 5, 2) := by decide +kernel
theorem dX10_named_107 : decode cX10_named 107 = .ok (.iload 6, 2) := by decide +kernel
theorem dX10_named_109 : decode cX10_named 109 = .ok (.invokevirtual 105, 3) := by decide +kernel
theorem dX10_named_112 : decode cX10_named 112 = .ok (.goto 4, 3) := by decide +kernel
theorem dX10_named_115 : decode cX10_named 115 = .ok (.iconst (-1), 1) := by decide +kernel
theorem dX10_named_116 : decode cX10_named 116 = .ok (.ireturn, 1) := by decide +kernel
theorem dX10_custom_0 : decode cX10_custom 0 = .ok (.iload_n 1, 1) := by decide +kernel
theorem dX10_custom_1 : decode cX10_custom 1 = .ok (.iload_n 2, 1) := by decide +kernel
theorem dX10_custom_2 : decode cX10_custom 2 = .ok (.iload_n 3, 1) := by decide +kernel
theorem dX10_custom_3 : decode cX10_custom 3 = .ok (.iload 4, 2) := by decide +kernel
theorem dX10_custom_5 : decode cX10_custom 5 = .ok (.iload 5, 2) := by decide +kernel
theorem dX10_custom_7 : decode cX10_custom 7 = .ok (.invokestatic 101, 3) := by decide +kernel
theorem dX10_custom_10 : decode cX10_custom 10 = .ok (.ifCond .eq 20, 3) := by decide +kernel
theorem dX10_custom_13 : decode cX10_custom 13 = .ok (.aload_n 0, 1) := by decide +kernel
theorem dX10_custom_14 : decode cX10_custom 14 = .ok (.iconst 2, 1) := by decide +kernel
theorem dX10_custom_15 : decode cX10_custom 15 = .ok (.iload_n 1, 1) := by decide +kernel
theorem dX10_custom_16 : decode cX10_custom 16 = .ok (.iload_n 2, 1) := by decide +kernel
theorem dX10_custom_17 : decode cX10_custom 17 = .ok (.iconst 1, 1) := by decide +kernel
theorem dX10_custom_18 : decode cX10_custom 18 = .ok (.iconst 0, 1) := by decide +kernel
theorem dX10_custom_19 : decode cX10_custom 19 = .ok (.iload_n 3, 1) := by decide +kernel
theorem dX10_custom_20 : decode cX10_custom 20 = .ok (.iload 4, 2) := by decide +kernel
theorem dX10_custom_22 : decode cX10_custom 22 = .ok (.iload 5, 2) := by decide +kernel
theorem dX10_custom_24 : decode cX10_custom 24 = .ok (.invokevirtual 105, 3) := by decide +kernel
theorem dX10_custom_27 : decode cX10_custom 27 = .ok (.goto 4, 3) := by decide +kernel
theorem dX10_custom_30 : decode cX10_custom 30 = .ok (.iconst (-1), 1) := by decide +kernel
theorem dX10_custom_31 : decode cX10_custom 31 = .ok (.ireturn, 1) := by decide +kernel
theorem dX10_crimeOf_0 : decode cX10_crimeOf 0 = .ok (.iload_n 1, 1) := by decide +kernel
theorem dX10_crimeOf_1 : decode cX10_crimeOf 1 = .ok (.i2l, 1) := by decide +kernel
theorem dX10_crimeOf_2 : decode cX10_crimeOf 2 = .ok (.lconst 0, 1) := by decide +kernel
theorem dX10_crimeOf_3 : decode cX10_crimeOf 3 = .ok (.aload_n 0, 1) := by decide +kernel
theorem dX10_crimeOf_4 : decode cX10_crimeOf 4 = .ok (.getfield 80, 3) := by decide +kernel
theorem dX10_crimeOf_7 : decode cX10_crimeOf 7 = .ok (.iconst 1, 1) := by decide +kernel
theorem dX10_crimeOf_8 : decode cX10_crimeOf 8 = .ok (.isub, 1) := by decide +kernel
theorem dX10_crimeOf_9 : decode cX10_crimeOf 9 = .ok (.i2l, 1) := by decide +kernel
theorem dX10_crimeOf_10 : decode cX10_crimeOf 10 = .ok (.invokestatic 69, 3) := by decide +kernel
theorem dX10_crimeOf_13 : decode cX10_crimeOf 13 = .ok (.ifCond .eq 29, 3) := by decide +kernel
theorem dX10_crimeOf_16 : decode cX10_crimeOf 16 = .ok (.iload_n 2, 1) := by decide +kernel
theorem dX10_crimeOf_17 : decode cX10_crimeOf 17 = .ok (.i2l, 1) := by decide +kernel
theorem dX10_crimeOf_18 : decode cX10_crimeOf 18 = .ok (.lconst 0, 1) := by decide +kernel
theorem dX10_crimeOf_19 : decode cX10_crimeOf 19 = .ok (.ldc2_w 67, 3) := by decide +kernel
theorem dX10_crimeOf_22 : decode cX10_crimeOf 22 = .ok (.invokestatic 69, 3) := by decide +kernel
theorem dX10_crimeOf_25 : decode cX10_crimeOf 25 = .ok (.ifCond .eq 17, 3) := by decide +kernel
theorem dX10_crimeOf_28 : decode cX10_crimeOf 28 = .ok (.aload_n 0, 1) := by decide +kernel
theorem dX10_crimeOf_29 : decode cX10_crimeOf 29 = .ok (.getfield 7, 3) := by decide +kernel
theorem dX10_crimeOf_32 : decode cX10_crimeOf 32 = .ok (.bipush 6, 2) := by decide +kernel
theorem dX10_crimeOf_34 : decode cX10_crimeOf 34 = .ok (.iload_n 1, 1) := by decide +kernel
theorem dX10_crimeOf_35 : decode cX10_crimeOf 35 = .ok (.imul, 1) := by decide +kernel
theorem dX10_crimeOf_36 : decode cX10_crimeOf 36 = .ok (.iload_n 2, 1) := by decide +kernel
theorem dX10_crimeOf_37 : decode cX10_crimeOf 37 = .ok (.iadd, 1) := by decide +kernel
theorem dX10_crimeOf_38 : decode cX10_crimeOf 38 = .ok (.iaload, 1) := by decide +kernel
theorem dX10_crimeOf_39 : decode cX10_crimeOf 39 = .ok (.goto 4, 3) := by decide +kernel
theorem dX10_crimeOf_42 : decode cX10_crimeOf 42 = .ok (.iconst (-1), 1) := by decide +kernel
theorem dX10_crimeOf_43 : decode cX10_crimeOf 43 = .ok (.ireturn, 1) := by decide +kernel
theorem dX10_paper_0 : decode cX10_paper 0 = .ok (.aload_n 0, 1) := by decide +kernel
theorem dX10_paper_1 : decode cX10_paper 1 = .ok (.iload_n 1, 1) := by decide +kernel
theorem dX10_paper_2 : decode cX10_paper 2 = .ok (.invokevirtual 109, 3) := by decide +kernel
theorem dX10_paper_5 : decode cX10_paper 5 = .ok (.ifCond .eq 15, 3) := by decide +kernel
theorem dX10_paper_8 : decode cX10_paper 8 = .ok (.iload_n 2, 1) := by decide +kernel
theorem dX10_paper_9 : decode cX10_paper 9 = .ok (.i2l, 1) := by decide +kernel
theorem dX10_paper_10 : decode cX10_paper 10 = .ok (.lconst 0, 1) := by decide +kernel
theorem dX10_paper_11 : decode cX10_paper 11 = .ok (.ldc2_w 99, 3) := by decide +kernel
theorem dX10_paper_14 : decode cX10_paper 14 = .ok (.invokestatic 69, 3) := by decide +kernel
theorem dX10_paper_17 : decode cX10_paper 17 = .ok (.ifCond .ne 5, 3) := by decide +kernel
theorem dX10_paper_20 : decode cX10_paper 20 = .ok (.iconst (-1), 1) := by decide +kernel
theorem dX10_paper_21 : decode cX10_paper 21 = .ok (.ireturn, 1) := by decide +kernel
theorem dX10_paper_22 : decode cX10_paper 22 = .ok (.aload_n 0, 1) := by decide +kernel
theorem dX10_paper_23 : decode cX10_paper 23 = .ok (.getfield 16, 3) := by decide +kernel
theorem dX10_paper_26 : decode cX10_paper 26 = .ok (.bipush 8, 2) := by decide +kernel
theorem dX10_paper_28 : decode cX10_paper 28 = .ok (.iload_n 1, 1) := by decide +kernel
theorem dX10_paper_29 : decode cX10_paper 29 = .ok (.imul, 1) := by decide +kernel
theorem dX10_paper_30 : decode cX10_paper 30 = .ok (.iaload, 1) := by decide +kernel
theorem dX10_paper_31 : decode cX10_paper 31 = .ok (.istore_n 3, 1) := by decide +kernel
theorem dX10_paper_32 : decode cX10_paper 32 = .ok (.iload_n 2, 1) := by decide +kernel
theorem dX10_paper_33 : decode cX10_paper 33 = .ok (.iconst 3, 1) := by decide +kernel
theorem dX10_paper_34 : decode cX10_paper 34 = .ok (.if_icmp .ne 7, 3) := by decide +kernel
theorem dX10_paper_37 : decode cX10_paper 37 = .ok (.iload_n 3, 1) := by decide +kernel
theorem dX10_paper_38 : decode cX10_paper 38 = .ok (.ifCond .ne 13, 3) := by decide +kernel
theorem dX10_paper_41 : decode cX10_paper 41 = .ok (.iload_n 2, 1) := by decide +kernel
theorem dX10_paper_42 : decode cX10_paper 42 = .ok (.iconst 4, 1) := by decide +kernel
theorem dX10_paper_43 : decode cX10_paper 43 = .ok (.if_icmp .ne 12, 3) := by decide +kernel
theorem dX10_paper_46 : decode cX10_paper 46 = .ok (.iload_n 3, 1) := by decide +kernel
theorem dX10_paper_47 : decode cX10_paper 47 = .ok (.iconst 1, 1) := by decide +kernel
theorem dX10_paper_48 : decode cX10_paper 48 = .ok (.if_icmp .eq 7, 3) := by decide +kernel
theorem dX10_paper_51 : decode cX10_paper 51 = .ok (.iconst 1, 1) := by decide +kernel
theorem dX10_paper_52 : decode cX10_paper 52 = .ok (.goto 4, 3) := by decide +kernel
theorem dX10_paper_55 : decode cX10_paper 55 = .ok (.iconst 0, 1) := by decide +kernel
theorem dX10_paper_56 : decode cX10_paper 56 = .ok (.istore 4, 2) := by decide +kernel
theorem dX10_paper_58 : decode cX10_paper 58 = .ok (.iload 4, 2) := by decide +kernel
theorem dX10_paper_60 : decode cX10_paper 60 = .ok (.ifCond .eq 8, 3) := by decide +kernel
theorem dX10_paper_63 : decode cX10_paper 63 = .ok (.bipush (-12), 2) := by decide +kernel
theorem dX10_paper_65 : decode cX10_paper 65 = .ok (.goto 14, 3) := by decide +kernel
theorem dX10_paper_68 : decode cX10_paper 68 = .ok (.aload_n 0, 1) := by decide +kernel
theorem dX10_paper_69 : decode cX10_paper 69 = .ok (.getfield 16, 3) := by decide +kernel
theorem dX10_paper_72 : decode cX10_paper 72 = .ok (.bipush 8, 2) := by decide +kernel
theorem dX10_paper_74 : decode cX10_paper 74 = .ok (.iload_n 1, 1) := by decide +kernel
theorem dX10_paper_75 : decode cX10_paper 75 = .ok (.imul, 1) := by decide +kernel
theorem dX10_paper_76 : decode cX10_paper 76 = .ok (.iload_n 2, 1) := by decide +kernel
theorem dX10_paper_77 : decode cX10_paper 77 = .ok (.iadd, 1) := by decide +kernel
theorem dX10_paper_78 : decode cX10_paper 78 = .ok (.iaload, 1) := by decide +kernel
theorem dX10_paper_79 : decode cX10_paper 79 = .ok (.ireturn, 1) := by decide +kernel
theorem dX10_bars_0 : decode cX10_bars 0 = .ok (.aload_n 0, 1) := by decide +kernel
theorem dX10_bars_1 : decode cX10_bars 1 = .ok (.iload_n 1, 1) := by decide +kernel
theorem dX10_bars_2 : decode cX10_bars 2 = .ok (.invokevirtual 109, 3) := by decide +kernel
theorem dX10_bars_5 : decode cX10_bars 5 = .ok (.ifCond .eq 15, 3) := by decide +kernel
theorem dX10_bars_8 : decode cX10_bars 8 = .ok (.iload_n 2, 1) := by decide +kernel
theorem dX10_bars_9 : decode cX10_bars 9 = .ok (.i2l, 1) := by decide +kernel
theorem dX10_bars_10 : decode cX10_bars 10 = .ok (.lconst 0, 1) := by decide +kernel
theorem dX10_bars_11 : decode cX10_bars 11 = .ok (.ldc2_w 97, 3) := by decide +kernel
theorem dX10_bars_14 : decode cX10_bars 14 = .ok (.invokestatic 69, 3) := by decide +kernel
theorem dX10_bars_17 : decode cX10_bars 17 = .ok (.ifCond .ne 5, 3) := by decide +kernel
theorem dX10_bars_20 : decode cX10_bars 20 = .ok (.iconst (-1), 1) := by decide +kernel
theorem dX10_bars_21 : decode cX10_bars 21 = .ok (.ireturn, 1) := by decide +kernel
theorem dX10_bars_22 : decode cX10_bars 22 = .ok (.aload_n 0, 1) := by decide +kernel
theorem dX10_bars_23 : decode cX10_bars 23 = .ok (.getfield 16, 3) := by decide +kernel
theorem dX10_bars_26 : decode cX10_bars 26 = .ok (.bipush 8, 2) := by decide +kernel
theorem dX10_bars_28 : decode cX10_bars 28 = .ok (.iload_n 1, 1) := by decide +kernel
theorem dX10_bars_29 : decode cX10_bars 29 = .ok (.imul, 1) := by decide +kernel
theorem dX10_bars_30 : decode cX10_bars 30 = .ok (.iconst 5, 1) := by decide +kernel
theorem dX10_bars_31 : decode cX10_bars 31 = .ok (.iadd, 1) := by decide +kernel
theorem dX10_bars_32 : decode cX10_bars 32 = .ok (.iaload, 1) := by decide +kernel
theorem dX10_bars_33 : decode cX10_bars 33 = .ok (.istore_n 3, 1) := by decide +kernel
theorem dX10_bars_34 : decode cX10_bars 34 = .ok (.aload_n 0, 1) := by decide +kernel
theorem dX10_bars_35 : decode cX10_bars 35 = .ok (.getfield 16, 3) := by decide +kernel
theorem dX10_bars_38 : decode cX10_bars 38 = .ok (.bipush 8, 2) := by decide +kernel
theorem dX10_bars_40 : decode cX10_bars 40 = .ok (.iload_n 1, 1) := by decide +kernel
theorem dX10_bars_41 : decode cX10_bars 41 = .ok (.imul, 1) := by decide +kernel
theorem dX10_bars_42 : decode cX10_bars 42 = .ok (.iconst 5, 1) := by decide +kernel
theorem dX10_bars_43 : decode cX10_bars 43 = .ok (.iadd, 1) := by decide +kernel
theorem dX10_bars_44 : decode cX10_bars 44 = .ok (.iload_n 2, 1) := by decide +kernel
theorem dX10_bars_45 : decode cX10_bars 45 = .ok (.iastore, 1) := by decide +kernel
theorem dX10_bars_46 : decode cX10_bars 46 = .ok (.iload_n 3, 1) := by decide +kernel
theorem dX10_bars_47 : decode cX10_bars 47 = .ok (.ireturn, 1) := by decide +kernel
theorem dX10_areCrime_0 : decode cX10_areCrime 0 = .ok (.aload_n 0, 1) := by decide +kernel
theorem dX10_areCrime_1 : decode cX10_areCrime 1 = .ok (.getfield 7, 3) := by decide +kernel
theorem dX10_areCrime_4 : decode cX10_areCrime 4 = .ok (.bipush 6, 2) := by decide +kernel
theorem dX10_areCrime_6 : decode cX10_areCrime 6 = .ok (.iload_n 2, 1) := by decide +kernel
theorem dX10_areCrime_7 : decode cX10_areCrime 7 = .ok (.imul, 1) := by decide +kernel
theorem dX10_areCrime_8 : decode cX10_areCrime 8 = .ok (.iconst 1, 1) := by decide +kernel
theorem dX10_areCrime_9 : decode cX10_areCrime 9 = .ok (.iadd, 1) := by decide +kernel
theorem dX10_areCrime_10 : decode cX10_areCrime 10 = .ok (.iaload, 1) := by decide +kernel
theorem dX10_areCrime_11 : decode cX10_areCrime 11 = .ok (.iload_n 1, 1) := by decide +kernel
theorem dX10_areCrime_12 : decode cX10_areCrime 12 = .ok (.iconst (-1), 1) := by decide +kernel
theorem dX10_areCrime_13 : decode cX10_areCrime 13 = .ok (.ixor, 1) := by decide +kernel
theorem dX10_areCrime_14 : decode cX10_areCrime 14 = .ok (.iand, 1) := by decide +kernel
theorem dX10_areCrime_15 : decode cX10_areCrime 15 = .ok (.ifCond .ne 23, 3) := by decide +kernel
theorem dX10_areCrime_18 : decode cX10_areCrime 18 = .ok (.aload_n 0, 1) := by decide +kernel
theorem dX10_areCrime_19 : decode cX10_areCrime 19 = .ok (.getfield 7, 3) := by decide +kernel
theorem dX10_areCrime_22 : decode cX10_areCrime 22 = .ok (.bipush 6, 2) := by decide +kernel
theorem dX10_areCrime_24 : decode cX10_areCrime 24 = .ok (.iload_n 2, 1) := by decide +kernel
theorem dX10_areCrime_25 : decode cX10_areCrime 25 = .ok (.imul, 1) := by decide +kernel
theorem dX10_areCrime_26 : decode cX10_areCrime 26 = .ok (.iconst 2, 1) := by decide +kernel
theorem dX10_areCrime_27 : decode cX10_areCrime 27 = .ok (.iadd, 1) := by decide +kernel
theorem dX10_areCrime_28 : decode cX10_areCrime 28 = .ok (.iaload, 1) := by decide +kernel
theorem dX10_areCrime_29 : decode cX10_areCrime 29 = .ok (.iload_n 1, 1) := by decide +kernel
theorem dX10_areCrime_30 : decode cX10_areCrime 30 = .ok (.iand, 1) := by decide +kernel
theorem dX10_areCrime_31 : decode cX10_areCrime 31 = .ok (.ifCond .ne 7, 3) := by decide +kernel
theorem dX10_areCrime_34 : decode cX10_areCrime 34 = .ok (.iconst 1, 1) := by decide +kernel
theorem dX10_areCrime_35 : decode cX10_areCrime 35 = .ok (.goto 4, 3) := by decide +kernel
theorem dX10_areCrime_38 : decode cX10_areCrime 38 = .ok (.iconst 0, 1) := by decide +kernel
theorem dX10_areCrime_39 : decode cX10_areCrime 39 = .ok (.ireturn, 1) := by decide +kernel
theorem dX10_crimesOf_0 : decode cX10_crimesOf 0 = .ok (.iconst 0, 1) := by decide +kernel
theorem dX10_crimesOf_1 : decode cX10_crimesOf 1 = .ok (.istore_n 3, 1) := by decide +kernel
theorem dX10_crimesOf_2 : decode cX10_crimesOf 2 = .ok (.iconst 0, 1) := by decide +kernel
theorem dX10_crimesOf_3 : decode cX10_crimesOf 3 = .ok (.istore 4, 2) := by decide +kernel
theorem dX10_crimesOf_5 : decode cX10_crimesOf 5 = .ok (.iload 4, 2) := by decide +kernel
theorem dX10_crimesOf_7 : decode cX10_crimesOf 7 = .ok (.aload_n 0, 1) := by decide +kernel
theorem dX10_crimesOf_8 : decode cX10_crimesOf 8 = .ok (.getfield 80, 3) := by decide +kernel
theorem dX10_crimesOf_11 : decode cX10_crimesOf 11 = .ok (.if_icmp .ge 44, 3) := by decide +kernel
theorem dX10_crimesOf_14 : decode cX10_crimesOf 14 = .ok (.iload_n 3, 1) := by decide +kernel
theorem dX10_crimesOf_15 : decode cX10_crimesOf 15 = .ok (.aload_n 0, 1) := by decide +kernel
theorem dX10_crimesOf_16 : decode cX10_crimesOf 16 = .ok (.getfield 7, 3) := by decide +kernel
theorem dX10_crimesOf_19 : decode cX10_crimesOf 19 = .ok (.bipush 6, 2) := by decide +kernel
theorem dX10_crimesOf_21 : decode cX10_crimesOf 21 = .ok (.iload 4, 2) := by decide +kernel
theorem dX10_crimesOf_23 : decode cX10_crimesOf 23 = .ok (.imul, 1) := by decide +kernel
theorem dX10_crimesOf_24 : decode cX10_crimesOf 24 = .ok (.iaload, 1) := by decide +kernel
theorem dX10_crimesOf_25 : decode cX10_crimesOf 25 = .ok (.iload_n 2, 1) := by decide +kernel
theorem dX10_crimesOf_26 : decode cX10_crimesOf 26 = .ok (.if_icmp .ne 20, 3) := by decide +kernel
theorem dX10_crimesOf_29 : decode cX10_crimesOf 29 = .ok (.aload_n 0, 1) := by decide +kernel
theorem dX10_crimesOf_30 : decode cX10_crimesOf 30 = .ok (.iload_n 1, 1) := by decide +kernel
theorem dX10_crimesOf_31 : decode cX10_crimesOf 31 = .ok (.iload 4, 2) := by decide +kernel
theorem dX10_crimesOf_33 : decode cX10_crimesOf 33 = .ok (.invokevirtual 112, 3) := by decide +kernel
theorem dX10_crimesOf_36 : decode cX10_crimesOf 36 = .ok (.ifCond .eq 10, 3) := by decide +kernel
theorem dX10_crimesOf_39 : decode cX10_crimesOf 39 = .ok (.iconst 1, 1) := by decide +kernel
theorem dX10_crimesOf_40 : decode cX10_crimesOf 40 = .ok (.iload 4, 2) := by decide +kernel
theorem dX10_crimesOf_42 : decode cX10_crimesOf 42 = .ok (.ishl, 1) := by decide +kernel
theorem dX10_crimesOf_43 : decode cX10_crimesOf 43 = .ok (.goto 4, 3) := by decide +kernel
theorem dX10_crimesOf_46 : decode cX10_crimesOf 46 = .ok (.iconst 0, 1) := by decide +kernel
theorem dX10_crimesOf_47 : decode cX10_crimesOf 47 = .ok (.ior, 1) := by decide +kernel
theorem dX10_crimesOf_48 : decode cX10_crimesOf 48 = .ok (.istore_n 3, 1) := by decide +kernel
theorem dX10_crimesOf_49 : decode cX10_crimesOf 49 = .ok (.iinc 4 1, 3) := by decide +kernel
theorem dX10_crimesOf_52 : decode cX10_crimesOf 52 = .ok (.goto (-47), 3) := by decide +kernel
theorem dX10_crimesOf_55 : decode cX10_crimesOf 55 = .ok (.iload_n 3, 1) := by decide +kernel
theorem dX10_crimesOf_56 : decode cX10_crimesOf 56 = .ok (.ireturn, 1) := by decide +kernel
theorem dX10_yearsFor_0 : decode cX10_yearsFor 0 = .ok (.aload_n 0, 1) := by decide +kernel
theorem dX10_yearsFor_1 : decode cX10_yearsFor 1 = .ok (.iload_n 1, 1) := by decide +kernel
theorem dX10_yearsFor_2 : decode cX10_yearsFor 2 = .ok (.iload_n 2, 1) := by decide +kernel
theorem dX10_yearsFor_3 : decode cX10_yearsFor 3 = .ok (.invokevirtual 116, 3) := by decide +kernel
theorem dX10_yearsFor_6 : decode cX10_yearsFor 6 = .ok (.istore_n 3, 1) := by decide +kernel
theorem dX10_yearsFor_7 : decode cX10_yearsFor 7 = .ok (.iconst 0, 1) := by decide +kernel
theorem dX10_yearsFor_8 : decode cX10_yearsFor 8 = .ok (.istore 4, 2) := by decide +kernel
theorem dX10_yearsFor_10 : decode cX10_yearsFor 10 = .ok (.iconst 0, 1) := by decide +kernel
theorem dX10_yearsFor_11 : decode cX10_yearsFor 11 = .ok (.istore 5, 2) := by decide +kernel
theorem dX10_yearsFor_13 : decode cX10_yearsFor 13 = .ok (.iload 5, 2) := by decide +kernel
theorem dX10_yearsFor_15 : decode cX10_yearsFor 15 = .ok (.aload_n 0, 1) := by decide +kernel
theorem dX10_yearsFor_16 : decode cX10_yearsFor 16 = .ok (.getfield 80, 3) := by decide +kernel
theorem dX10_yearsFor_19 : decode cX10_yearsFor 19 = .ok (.if_icmp .ge 55, 3) := by decide +kernel
theorem dX10_yearsFor_22 : decode cX10_yearsFor 22 = .ok (.iload_n 3, 1) := by decide +kernel
theorem dX10_yearsFor_23 : decode cX10_yearsFor 23 = .ok (.iload 5, 2) := by decide +kernel
theorem dX10_yearsFor_25 : decode cX10_yearsFor 25 = .ok (.ishr, 1) := by decide +kernel
theorem dX10_yearsFor_26 : decode cX10_yearsFor 26 = .ok (.iconst 1, 1) := by decide +kernel
theorem dX10_yearsFor_27 : decode cX10_yearsFor 27 = .ok (.iand, 1) := by decide +kernel
theorem dX10_yearsFor_28 : decode cX10_yearsFor 28 = .ok (.iconst 1, 1) := by decide +kernel
theorem dX10_yearsFor_29 : decode cX10_yearsFor 29 = .ok (.if_icmp .ne 35, 3) := by decide +kernel
theorem dX10_yearsFor_32 : decode cX10_yearsFor 32 = .ok (.aload_n 0, 1) := by decide +kernel
theorem dX10_yearsFor_33 : decode cX10_yearsFor 33 = .ok (.getfield 7, 3) := by decide +kernel
theorem dX10_yearsFor_36 : decode cX10_yearsFor 36 = .ok (.bipush 6, 2) := by decide +kernel
theorem dX10_yearsFor_38 : decode cX10_yearsFor 38 = .ok (.iload 5, 2) := by decide +kernel
theorem dX10_yearsFor_40 : decode cX10_yearsFor 40 = .ok (.imul, 1) := by decide +kernel
theorem dX10_yearsFor_41 : decode cX10_yearsFor 41 = .ok (.iconst 4, 1) := by decide +kernel
theorem dX10_yearsFor_42 : decode cX10_yearsFor 42 = .ok (.iadd, 1) := by decide +kernel
theorem dX10_yearsFor_43 : decode cX10_yearsFor 43 = .ok (.iaload, 1) := by decide +kernel
theorem dX10_yearsFor_44 : decode cX10_yearsFor 44 = .ok (.iload 4, 2) := by decide +kernel
theorem dX10_yearsFor_46 : decode cX10_yearsFor 46 = .ok (.if_icmp .le 18, 3) := by decide +kernel
theorem dX10_yearsFor_49 : decode cX10_yearsFor 49 = .ok (.aload_n 0, 1) := by decide +kernel
theorem dX10_yearsFor_50 : decode cX10_yearsFor 50 = .ok (.getfield 7, 3) := by decide +kernel
theorem dX10_yearsFor_53 : decode cX10_yearsFor 53 = .ok (.bipush 6, 2) := by decide +kernel
theorem dX10_yearsFor_55 : decode cX10_yearsFor 55 = .ok (.iload 5, 2) := by decide +kernel
theorem dX10_yearsFor_57 : decode cX10_yearsFor 57 = .ok (.imul, 1) := by decide +kernel
theorem dX10_yearsFor_58 : decode cX10_yearsFor 58 = .ok (.iconst 4, 1) := by decide +kernel
theorem dX10_yearsFor_59 : decode cX10_yearsFor 59 = .ok (.iadd, 1) := by decide +kernel
theorem dX10_yearsFor_60 : decode cX10_yearsFor 60 = .ok (.iaload, 1) := by decide +kernel
theorem dX10_yearsFor_61 : decode cX10_yearsFor 61 = .ok (.goto 5, 3) := by decide +kernel
theorem dX10_yearsFor_64 : decode cX10_yearsFor 64 = .ok (.iload 4, 2) := by decide +kernel
theorem dX10_yearsFor_66 : decode cX10_yearsFor 66 = .ok (.istore 4, 2) := by decide +kernel
theorem dX10_yearsFor_68 : decode cX10_yearsFor 68 = .ok (.iinc 5 1, 3) := by decide +kernel
theorem dX10_yearsFor_71 : decode cX10_yearsFor 71 = .ok (.goto (-58), 3) := by decide +kernel
theorem dX10_yearsFor_74 : decode cX10_yearsFor 74 = .ok (.iload 4, 2) := by decide +kernel
theorem dX10_yearsFor_76 : decode cX10_yearsFor 76 = .ok (.ireturn, 1) := by decide +kernel
theorem dX10_isDeadly_0 : decode cX10_isDeadly 0 = .ok (.aload_n 0, 1) := by decide +kernel
theorem dX10_isDeadly_1 : decode cX10_isDeadly 1 = .ok (.aload_n 0, 1) := by decide +kernel
theorem dX10_isDeadly_2 : decode cX10_isDeadly 2 = .ok (.getfield 13, 3) := by decide +kernel
theorem dX10_isDeadly_5 : decode cX10_isDeadly 5 = .ok (.iconst 5, 1) := by decide +kernel
theorem dX10_isDeadly_6 : decode cX10_isDeadly 6 = .ok (.iload_n 1, 1) := by decide +kernel
theorem dX10_isDeadly_7 : decode cX10_isDeadly 7 = .ok (.imul, 1) := by decide +kernel
theorem dX10_isDeadly_8 : decode cX10_isDeadly 8 = .ok (.iaload, 1) := by decide +kernel
theorem dX10_isDeadly_9 : decode cX10_isDeadly 9 = .ok (.iload_n 2, 1) := by decide +kernel
theorem dX10_isDeadly_10 : decode cX10_isDeadly 10 = .ok (.invokevirtual 116, 3) := by decide +kernel
theorem dX10_isDeadly_13 : decode cX10_isDeadly 13 = .ok (.istore_n 3, 1) := by decide +kernel
theorem dX10_isDeadly_14 : decode cX10_isDeadly 14 = .ok (.iconst 0, 1) := by decide +kernel
theorem dX10_isDeadly_15 : decode cX10_isDeadly 15 = .ok (.istore 4, 2) := by decide +kernel
theorem dX10_isDeadly_17 : decode cX10_isDeadly 17 = .ok (.iconst 0, 1) := by decide +kernel
theorem dX10_isDeadly_18 : decode cX10_isDeadly 18 = .ok (.istore 5, 2) := by decide +kernel
theorem dX10_isDeadly_20 : decode cX10_isDeadly 20 = .ok (.iload 5, 2) := by decide +kernel
theorem dX10_isDeadly_22 : decode cX10_isDeadly 22 = .ok (.aload_n 0, 1) := by decide +kernel
theorem dX10_isDeadly_23 : decode cX10_isDeadly 23 = .ok (.getfield 80, 3) := by decide +kernel
theorem dX10_isDeadly_26 : decode cX10_isDeadly 26 = .ok (.if_icmp .ge 47, 3) := by decide +kernel
theorem dX10_isDeadly_29 : decode cX10_isDeadly 29 = .ok (.iload 4, 2) := by decide +kernel
theorem dX10_isDeadly_31 : decode cX10_isDeadly 31 = .ok (.ifCond .ne 29, 3) := by decide +kernel
theorem dX10_isDeadly_34 : decode cX10_isDeadly 34 = .ok (.iload_n 3, 1) := by decide +kernel
theorem dX10_isDeadly_35 : decode cX10_isDeadly 35 = .ok (.iload 5, 2) := by decide +kernel
theorem dX10_isDeadly_37 : decode cX10_isDeadly 37 = .ok (.ishr, 1) := by decide +kernel
theorem dX10_isDeadly_38 : decode cX10_isDeadly 38 = .ok (.iconst 1, 1) := by decide +kernel
theorem dX10_isDeadly_39 : decode cX10_isDeadly 39 = .ok (.iand, 1) := by decide +kernel
theorem dX10_isDeadly_40 : decode cX10_isDeadly 40 = .ok (.iconst 1, 1) := by decide +kernel
theorem dX10_isDeadly_41 : decode cX10_isDeadly 41 = .ok (.if_icmp .ne 23, 3) := by decide +kernel
theorem dX10_isDeadly_44 : decode cX10_isDeadly 44 = .ok (.aload_n 0, 1) := by decide +kernel
theorem dX10_isDeadly_45 : decode cX10_isDeadly 45 = .ok (.getfield 7, 3) := by decide +kernel
theorem dX10_isDeadly_48 : decode cX10_isDeadly 48 = .ok (.bipush 6, 2) := by decide +kernel
theorem dX10_isDeadly_50 : decode cX10_isDeadly 50 = .ok (.iload 5, 2) := by decide +kernel
theorem dX10_isDeadly_52 : decode cX10_isDeadly 52 = .ok (.imul, 1) := by decide +kernel
theorem dX10_isDeadly_53 : decode cX10_isDeadly 53 = .ok (.iconst 5, 1) := by decide +kernel
theorem dX10_isDeadly_54 : decode cX10_isDeadly 54 = .ok (.iadd, 1) := by decide +kernel
theorem dX10_isDeadly_55 : decode cX10_isDeadly 55 = .ok (.iaload, 1) := by decide +kernel
theorem dX10_isDeadly_56 : decode cX10_isDeadly 56 = .ok (.iconst 1, 1) := by decide +kernel
theorem dX10_isDeadly_57 : decode cX10_isDeadly 57 = .ok (.if_icmp .ne 7, 3) := by decide +kernel
theorem dX10_isDeadly_60 : decode cX10_isDeadly 60 = .ok (.iconst 1, 1) := by decide +kernel
theorem dX10_isDeadly_61 : decode cX10_isDeadly 61 = .ok (.goto 4, 3) := by decide +kernel
theorem dX10_isDeadly_64 : decode cX10_isDeadly 64 = .ok (.iconst 0, 1) := by decide +kernel
theorem dX10_isDeadly_65 : decode cX10_isDeadly 65 = .ok (.istore 4, 2) := by decide +kernel
theorem dX10_isDeadly_67 : decode cX10_isDeadly 67 = .ok (.iinc 5 1, 3) := by decide +kernel
theorem dX10_isDeadly_70 : decode cX10_isDeadly 70 = .ok (.goto (-50), 3) := by decide +kernel
theorem dX10_isDeadly_73 : decode cX10_isDeadly 73 = .ok (.iload 4, 2) := by decide +kernel
theorem dX10_isDeadly_75 : decode cX10_isDeadly 75 = .ok (.ireturn, 1) := by decide +kernel
theorem dX10_matches_0 : decode cX10_matches 0 = .ok (.aload_n 0, 1) := by decide +kernel
theorem dX10_matches_1 : decode cX10_matches 1 = .ok (.iload_n 1, 1) := by decide +kernel
theorem dX10_matches_2 : decode cX10_matches 2 = .ok (.invokevirtual 120, 3) := by decide +kernel
theorem dX10_matches_5 : decode cX10_matches 5 = .ok (.ifCond .eq 38, 3) := by decide +kernel
theorem dX10_matches_8 : decode cX10_matches 8 = .ok (.iload_n 2, 1) := by decide +kernel
theorem dX10_matches_9 : decode cX10_matches 9 = .ok (.invokestatic 83, 3) := by decide +kernel
theorem dX10_matches_12 : decode cX10_matches 12 = .ok (.ifCond .eq 31, 3) := by decide +kernel
theorem dX10_matches_15 : decode cX10_matches 15 = .ok (.iload_n 3, 1) := by decide +kernel
theorem dX10_matches_16 : decode cX10_matches 16 = .ok (.i2l, 1) := by decide +kernel
theorem dX10_matches_17 : decode cX10_matches 17 = .ok (.lconst 0, 1) := by decide +kernel
theorem dX10_matches_18 : decode cX10_matches 18 = .ok (.lconst 1, 1) := by decide +kernel
theorem dX10_matches_19 : decode cX10_matches 19 = .ok (.invokestatic 69, 3) := by decide +kernel
theorem dX10_matches_22 : decode cX10_matches 22 = .ok (.ifCond .eq 21, 3) := by decide +kernel
theorem dX10_matches_25 : decode cX10_matches 25 = .ok (.aload_n 0, 1) := by decide +kernel
theorem dX10_matches_26 : decode cX10_matches 26 = .ok (.aload_n 0, 1) := by decide +kernel
theorem dX10_matches_27 : decode cX10_matches 27 = .ok (.getfield 13, 3) := by decide +kernel
theorem dX10_matches_30 : decode cX10_matches 30 = .ok (.iconst 5, 1) := by decide +kernel
theorem dX10_matches_31 : decode cX10_matches 31 = .ok (.iload_n 1, 1) := by decide +kernel
theorem dX10_matches_32 : decode cX10_matches 32 = .ok (.imul, 1) := by decide +kernel
theorem dX10_matches_33 : decode cX10_matches 33 = .ok (.iload_n 3, 1) := by decide +kernel
theorem dX10_matches_34 : decode cX10_matches 34 = .ok (.iadd, 1) := by decide +kernel
theorem dX10_matches_35 : decode cX10_matches 35 = .ok (.iaload, 1) := by decide +kernel
theorem dX10_matches_36 : decode cX10_matches 36 = .ok (.iload_n 2, 1) := by decide +kernel
theorem dX10_matches_37 : decode cX10_matches 37 = .ok (.invokevirtual 116, 3) := by decide +kernel
theorem dX10_matches_40 : decode cX10_matches 40 = .ok (.goto 4, 3) := by decide +kernel
theorem dX10_matches_43 : decode cX10_matches 43 = .ok (.iconst (-1), 1) := by decide +kernel
theorem dX10_matches_44 : decode cX10_matches 44 = .ok (.ireturn, 1) := by decide +kernel
theorem dX10_yearsOf_0 : decode cX10_yearsOf 0 = .ok (.aload_n 0, 1) := by decide +kernel
theorem dX10_yearsOf_1 : decode cX10_yearsOf 1 = .ok (.iload_n 1, 1) := by decide +kernel
theorem dX10_yearsOf_2 : decode cX10_yearsOf 2 = .ok (.invokevirtual 120, 3) := by decide +kernel
theorem dX10_yearsOf_5 : decode cX10_yearsOf 5 = .ok (.ifCond .eq 38, 3) := by decide +kernel
theorem dX10_yearsOf_8 : decode cX10_yearsOf 8 = .ok (.iload_n 2, 1) := by decide +kernel
theorem dX10_yearsOf_9 : decode cX10_yearsOf 9 = .ok (.invokestatic 83, 3) := by decide +kernel
theorem dX10_yearsOf_12 : decode cX10_yearsOf 12 = .ok (.ifCond .eq 31, 3) := by decide +kernel
theorem dX10_yearsOf_15 : decode cX10_yearsOf 15 = .ok (.iload_n 3, 1) := by decide +kernel
theorem dX10_yearsOf_16 : decode cX10_yearsOf 16 = .ok (.i2l, 1) := by decide +kernel
theorem dX10_yearsOf_17 : decode cX10_yearsOf 17 = .ok (.lconst 0, 1) := by decide +kernel
theorem dX10_yearsOf_18 : decode cX10_yearsOf 18 = .ok (.lconst 1, 1) := by decide +kernel
theorem dX10_yearsOf_19 : decode cX10_yearsOf 19 = .ok (.invokestatic 69, 3) := by decide +kernel
theorem dX10_yearsOf_22 : decode cX10_yearsOf 22 = .ok (.ifCond .eq 21, 3) := by decide +kernel
theorem dX10_yearsOf_25 : decode cX10_yearsOf 25 = .ok (.aload_n 0, 1) := by decide +kernel
theorem dX10_yearsOf_26 : decode cX10_yearsOf 26 = .ok (.aload_n 0, 1) := by decide +kernel
theorem dX10_yearsOf_27 : decode cX10_yearsOf 27 = .ok (.getfield 13, 3) := by decide +kernel
theorem dX10_yearsOf_30 : decode cX10_yearsOf 30 = .ok (.iconst 5, 1) := by decide +kernel
theorem dX10_yearsOf_31 : decode cX10_yearsOf 31 = .ok (.iload_n 1, 1) := by decide +kernel
theorem dX10_yearsOf_32 : decode cX10_yearsOf 32 = .ok (.imul, 1) := by decide +kernel
theorem dX10_yearsOf_33 : decode cX10_yearsOf 33 = .ok (.iload_n 3, 1) := by decide +kernel
theorem dX10_yearsOf_34 : decode cX10_yearsOf 34 = .ok (.iadd, 1) := by decide +kernel
theorem dX10_yearsOf_35 : decode cX10_yearsOf 35 = .ok (.iaload, 1) := by decide +kernel
theorem dX10_yearsOf_36 : decode cX10_yearsOf 36 = .ok (.iload_n 2, 1) := by decide +kernel
theorem dX10_yearsOf_37 : decode cX10_yearsOf 37 = .ok (.invokevirtual 123, 3) := by decide +kernel
theorem dX10_yearsOf_40 : decode cX10_yearsOf 40 = .ok (.goto 4, 3) := by decide +kernel
theorem dX10_yearsOf_43 : decode cX10_yearsOf 43 = .ok (.iconst (-1), 1) := by decide +kernel
theorem dX10_yearsOf_44 : decode cX10_yearsOf 44 = .ok (.ireturn, 1) := by decide +kernel
theorem dX10_count_0 : decode cX10_count 0 = .ok (.iload_n 1, 1) := by decide +kernel
theorem dX10_count_1 : decode cX10_count 1 = .ok (.tableswitch 63 0 4 #[35, 40, 45, 50, 55], 35) := by decide +kernel
theorem dX10_count_36 : decode cX10_count 36 = .ok (.aload_n 0, 1) := by decide +kernel
theorem dX10_count_37 : decode cX10_count 37 = .ok (.getfield 80, 3) := by decide +kernel
theorem dX10_count_40 : decode cX10_count 40 = .ok (.ireturn, 1) := by decide +kernel
theorem dX10_count_41 : decode cX10_count 41 = .ok (.aload_n 0, 1) := by decide +kernel
theorem dX10_count_42 : decode cX10_count 42 = .ok (.getfield 73, 3) := by decide +kernel
theorem dX10_count_45 : decode cX10_count 45 = .ok (.ireturn, 1) := by decide +kernel
theorem dX10_count_46 : decode cX10_count 46 = .ok (.aload_n 0, 1) := by decide +kernel
theorem dX10_count_47 : decode cX10_count 47 = .ok (.getfield 77, 3) := by decide +kernel
theorem dX10_count_50 : decode cX10_count 50 = .ok (.ireturn, 1) := by decide +kernel
theorem dX10_count_51 : decode cX10_count 51 = .ok (.aload_n 0, 1) := by decide +kernel
theorem dX10_count_52 : decode cX10_count 52 = .ok (.getfield 126, 3) := by decide +kernel
theorem dX10_count_55 : decode cX10_count 55 = .ok (.ireturn, 1) := by decide +kernel
theorem dX10_count_56 : decode cX10_count 56 = .ok (.aload_n 0, 1) := by decide +kernel
theorem dX10_count_57 : decode cX10_count 57 = .ok (.getfield 22, 3) := by decide +kernel
theorem dX10_count_60 : decode cX10_count 60 = .ok (.bipush 6, 2) := by decide +kernel
theorem dX10_count_62 : decode cX10_count 62 = .ok (.iaload, 1) := by decide +kernel
theorem dX10_count_63 : decode cX10_count 63 = .ok (.ireturn, 1) := by decide +kernel
theorem dX10_count_64 : decode cX10_count 64 = .ok (.iconst (-1), 1) := by decide +kernel
theorem dX10_count_65 : decode cX10_count 65 = .ok (.ireturn, 1) := by decide +kernel
theorem dX10_man_0 : decode cX10_man 0 = .ok (.iload_n 1, 1) := by decide +kernel
theorem dX10_man_1 : decode cX10_man 1 = .ok (.i2l, 1) := by decide +kernel
theorem dX10_man_2 : decode cX10_man 2 = .ok (.lconst 0, 1) := by decide +kernel
theorem dX10_man_3 : decode cX10_man 3 = .ok (.ldc2_w 129, 3) := by decide +kernel
theorem dX10_man_6 : decode cX10_man 6 = .ok (.invokestatic 69, 3) := by decide +kernel
theorem dX10_man_9 : decode cX10_man 9 = .ok (.ifCond .eq 30, 3) := by decide +kernel
theorem dX10_man_12 : decode cX10_man 12 = .ok (.iload_n 1, 1) := by decide +kernel
theorem dX10_man_13 : decode cX10_man 13 = .ok (.iconst 2, 1) := by decide +kernel
theorem dX10_man_14 : decode cX10_man 14 = .ok (.if_icmp .ne 18, 3) := by decide +kernel
theorem dX10_man_17 : decode cX10_man 17 = .ok (.iload_n 2, 1) := by decide +kernel
theorem dX10_man_18 : decode cX10_man 18 = .ok (.i2l, 1) := by decide +kernel
theorem dX10_man_19 : decode cX10_man 19 = .ok (.lconst 0, 1) := by decide +kernel
theorem dX10_man_20 : decode cX10_man 20 = .ok (.ldc2_w 95, 3) := by decide +kernel
theorem dX10_man_23 : decode cX10_man 23 = .ok (.invokestatic 69, 3) := by decide +kernel
theorem dX10_man_26 : decode cX10_man 26 = .ok (.ifCond .eq 13, 3) := by decide +kernel
theorem dX10_man_29 : decode cX10_man 29 = .ok (.goto 12, 3) := by decide +kernel
theorem dX10_man_32 : decode cX10_man 32 = .ok (.iload_n 2, 1) := by decide +kernel
theorem dX10_man_33 : decode cX10_man 33 = .ok (.invokestatic 83, 3) := by decide +kernel
theorem dX10_man_36 : decode cX10_man 36 = .ok (.ifCond .ne 5, 3) := by decide +kernel
theorem dX10_man_39 : decode cX10_man 39 = .ok (.iconst (-1), 1) := by decide +kernel
theorem dX10_man_40 : decode cX10_man 40 = .ok (.ireturn, 1) := by decide +kernel
theorem dX10_man_41 : decode cX10_man 41 = .ok (.aload_n 0, 1) := by decide +kernel
theorem dX10_man_42 : decode cX10_man 42 = .ok (.getfield 22, 3) := by decide +kernel
theorem dX10_man_45 : decode cX10_man 45 = .ok (.iload_n 1, 1) := by decide +kernel
theorem dX10_man_46 : decode cX10_man 46 = .ok (.iaload, 1) := by decide +kernel
theorem dX10_man_47 : decode cX10_man 47 = .ok (.istore_n 3, 1) := by decide +kernel
theorem dX10_man_48 : decode cX10_man 48 = .ok (.aload_n 0, 1) := by decide +kernel
theorem dX10_man_49 : decode cX10_man 49 = .ok (.getfield 22, 3) := by decide +kernel
theorem dX10_man_52 : decode cX10_man 52 = .ok (.iload_n 1, 1) := by decide +kernel
theorem dX10_man_53 : decode cX10_man 53 = .ok (.iload_n 2, 1) := by decide +kernel
theorem dX10_man_54 : decode cX10_man 54 = .ok (.iastore, 1) := by decide +kernel
theorem dX10_man_55 : decode cX10_man 55 = .ok (.iload_n 1, 1) := by decide +kernel
theorem dX10_man_56 : decode cX10_man 56 = .ok (.iconst 1, 1) := by decide +kernel
theorem dX10_man_57 : decode cX10_man 57 = .ok (.if_icmp .ne 7, 3) := by decide +kernel
theorem dX10_man_60 : decode cX10_man 60 = .ok (.aload_n 0, 1) := by decide +kernel
theorem dX10_man_61 : decode cX10_man 61 = .ok (.invokevirtual 64, 3) := by decide +kernel
theorem dX10_man_64 : decode cX10_man 64 = .ok (.iload_n 3, 1) := by decide +kernel
theorem dX10_man_65 : decode cX10_man 65 = .ok (.ireturn, 1) := by decide +kernel
theorem dX10_judged_0 : decode cX10_judged 0 = .ok (.aload_n 0, 1) := by decide +kernel
theorem dX10_judged_1 : decode cX10_judged 1 = .ok (.iload_n 1, 1) := by decide +kernel
theorem dX10_judged_2 : decode cX10_judged 2 = .ok (.invokevirtual 120, 3) := by decide +kernel
theorem dX10_judged_5 : decode cX10_judged 5 = .ok (.ifCond .ne 5, 3) := by decide +kernel
theorem dX10_judged_8 : decode cX10_judged 8 = .ok (.iconst (-1), 1) := by decide +kernel
theorem dX10_judged_9 : decode cX10_judged 9 = .ok (.ireturn, 1) := by decide +kernel
theorem dX10_judged_10 : decode cX10_judged 10 = .ok (.aload_n 0, 1) := by decide +kernel
theorem dX10_judged_11 : decode cX10_judged 11 = .ok (.getfield 13, 3) := by decide +kernel
theorem dX10_judged_14 : decode cX10_judged 14 = .ok (.iconst 5, 1) := by decide +kernel
theorem dX10_judged_15 : decode cX10_judged 15 = .ok (.iload_n 1, 1) := by decide +kernel
theorem dX10_judged_16 : decode cX10_judged 16 = .ok (.imul, 1) := by decide +kernel
theorem dX10_judged_17 : decode cX10_judged 17 = .ok (.iconst 4, 1) := by decide +kernel
theorem dX10_judged_18 : decode cX10_judged 18 = .ok (.iadd, 1) := by decide +kernel
theorem dX10_judged_19 : decode cX10_judged 19 = .ok (.iaload, 1) := by decide +kernel
theorem dX10_judged_20 : decode cX10_judged 20 = .ok (.istore_n 3, 1) := by decide +kernel
theorem dX10_judged_21 : decode cX10_judged 21 = .ok (.aload_n 0, 1) := by decide +kernel
theorem dX10_judged_22 : decode cX10_judged 22 = .ok (.getfield 13, 3) := by decide +kernel
theorem dX10_judged_25 : decode cX10_judged 25 = .ok (.iconst 5, 1) := by decide +kernel
theorem dX10_judged_26 : decode cX10_judged 26 = .ok (.iload_n 1, 1) := by decide +kernel
theorem dX10_judged_27 : decode cX10_judged 27 = .ok (.imul, 1) := by decide +kernel
theorem dX10_judged_28 : decode cX10_judged 28 = .ok (.iconst 4, 1) := by decide +kernel
theorem dX10_judged_29 : decode cX10_judged 29 = .ok (.iadd, 1) := by decide +kernel
theorem dX10_judged_30 : decode cX10_judged 30 = .ok (.iload_n 2, 1) := by decide +kernel
theorem dX10_judged_31 : decode cX10_judged 31 = .ok (.ifCond .eq 7, 3) := by decide +kernel
theorem dX10_judged_34 : decode cX10_judged 34 = .ok (.iconst 1, 1) := by decide +kernel
theorem dX10_judged_35 : decode cX10_judged 35 = .ok (.goto 4, 3) := by decide +kernel
theorem dX10_judged_38 : decode cX10_judged 38 = .ok (.iconst 0, 1) := by decide +kernel
theorem dX10_judged_39 : decode cX10_judged 39 = .ok (.iastore, 1) := by decide +kernel
theorem dX10_judged_40 : decode cX10_judged 40 = .ok (.iload_n 3, 1) := by decide +kernel
theorem dX10_judged_41 : decode cX10_judged 41 = .ok (.ireturn, 1) := by decide +kernel
theorem dX10_allDeeds_0 : decode cX10_allDeeds 0 = .ok (.iconst 1, 1) := by decide +kernel
theorem dX10_allDeeds_1 : decode cX10_allDeeds 1 = .ok (.aload_n 0, 1) := by decide +kernel
theorem dX10_allDeeds_2 : decode cX10_allDeeds 2 = .ok (.getfield 73, 3) := by decide +kernel
theorem dX10_allDeeds_5 : decode cX10_allDeeds 5 = .ok (.ishl, 1) := by decide +kernel
theorem dX10_allDeeds_6 : decode cX10_allDeeds 6 = .ok (.iconst 1, 1) := by decide +kernel
theorem dX10_allDeeds_7 : decode cX10_allDeeds 7 = .ok (.isub, 1) := by decide +kernel
theorem dX10_allDeeds_8 : decode cX10_allDeeds 8 = .ok (.ireturn, 1) := by decide +kernel
theorem dX10_bound_0 : decode cX10_bound 0 = .ok (.iload_n 1, 1) := by decide +kernel
theorem dX10_bound_1 : decode cX10_bound 1 = .ok (.ifCond .ne 12, 3) := by decide +kernel
theorem dX10_bound_4 : decode cX10_bound 4 = .ok (.aload_n 0, 1) := by decide +kernel
theorem dX10_bound_5 : decode cX10_bound 5 = .ok (.getfield 22, 3) := by decide +kernel
theorem dX10_bound_8 : decode cX10_bound 8 = .ok (.iconst 3, 1) := by decide +kernel
theorem dX10_bound_9 : decode cX10_bound 9 = .ok (.iaload, 1) := by decide +kernel
theorem dX10_bound_10 : decode cX10_bound 10 = .ok (.goto 51, 3) := by decide +kernel
theorem dX10_bound_13 : decode cX10_bound 13 = .ok (.iload_n 1, 1) := by decide +kernel
theorem dX10_bound_14 : decode cX10_bound 14 = .ok (.iconst 1, 1) := by decide +kernel
theorem dX10_bound_15 : decode cX10_bound 15 = .ok (.if_icmp .ne 12, 3) := by decide +kernel
theorem dX10_bound_18 : decode cX10_bound 18 = .ok (.aload_n 0, 1) := by decide +kernel
theorem dX10_bound_19 : decode cX10_bound 19 = .ok (.getfield 22, 3) := by decide +kernel
theorem dX10_bound_22 : decode cX10_bound 22 = .ok (.iconst 4, 1) := by decide +kernel
theorem dX10_bound_23 : decode cX10_bound 23 = .ok (.iaload, 1) := by decide +kernel
theorem dX10_bound_24 : decode cX10_bound 24 = .ok (.goto 37, 3) := by decide +kernel
theorem dX10_bound_27 : decode cX10_bound 27 = .ok (.iload_n 1, 1) := by decide +kernel
theorem dX10_bound_28 : decode cX10_bound 28 = .ok (.iconst 2, 1) := by decide +kernel
theorem dX10_bound_29 : decode cX10_bound 29 = .ok (.if_icmp .ne 17, 3) := by decide +kernel
theorem dX10_bound_32 : decode cX10_bound 32 = .ok (.aload_n 0, 1) := by decide +kernel
theorem dX10_bound_33 : decode cX10_bound 33 = .ok (.getfield 22, 3) := by decide +kernel
theorem dX10_bound_36 : decode cX10_bound 36 = .ok (.iconst 5, 1) := by decide +kernel
theorem dX10_bound_37 : decode cX10_bound 37 = .ok (.iaload, 1) := by decide +kernel
theorem dX10_bound_38 : decode cX10_bound 38 = .ok (.aload_n 0, 1) := by decide +kernel
theorem dX10_bound_39 : decode cX10_bound 39 = .ok (.invokevirtual 131, 3) := by decide +kernel
theorem dX10_bound_42 : decode cX10_bound 42 = .ok (.iand, 1) := by decide +kernel
theorem dX10_bound_43 : decode cX10_bound 43 = .ok (.goto 18, 3) := by decide +kernel
theorem dX10_bound_46 : decode cX10_bound 46 = .ok (.iload_n 1, 1) := by decide +kernel
theorem dX10_bound_47 : decode cX10_bound 47 = .ok (.iconst 3, 1) := by decide +kernel
theorem dX10_bound_48 : decode cX10_bound 48 = .ok (.if_icmp .ne 12, 3) := by decide +kernel
theorem dX10_bound_51 : decode cX10_bound 51 = .ok (.aload_n 0, 1) := by decide +kernel
theorem dX10_bound_52 : decode cX10_bound 52 = .ok (.getfield 22, 3) := by decide +kernel
theorem dX10_bound_55 : decode cX10_bound 55 = .ok (.iconst 1, 1) := by decide +kernel
theorem dX10_bound_56 : decode cX10_bound 56 = .ok (.iaload, 1) := by decide +kernel
theorem dX10_bound_57 : decode cX10_bound 57 = .ok (.goto 4, 3) := by decide +kernel
theorem dX10_bound_60 : decode cX10_bound 60 = .ok (.iconst (-1), 1) := by decide +kernel
theorem dX10_bound_61 : decode cX10_bound 61 = .ok (.ireturn, 1) := by decide +kernel
theorem dX10_isCovered_0 : decode cX10_isCovered 0 = .ok (.bipush 8, 2) := by decide +kernel
theorem dX10_isCovered_2 : decode cX10_isCovered 2 = .ok (.iload_n 1, 1) := by decide +kernel
theorem dX10_isCovered_3 : decode cX10_isCovered 3 = .ok (.imul, 1) := by decide +kernel
theorem dX10_isCovered_4 : decode cX10_isCovered 4 = .ok (.istore_n 3, 1) := by decide +kernel
theorem dX10_isCovered_5 : decode cX10_isCovered 5 = .ok (.aload_n 0, 1) := by decide +kernel
theorem dX10_isCovered_6 : decode cX10_isCovered 6 = .ok (.getfield 13, 3) := by decide +kernel
theorem dX10_isCovered_9 : decode cX10_isCovered 9 = .ok (.iconst 5, 1) := by decide +kernel
theorem dX10_isCovered_10 : decode cX10_isCovered 10 = .ok (.iload_n 2, 1) := by decide +kernel
theorem dX10_isCovered_11 : decode cX10_isCovered 11 = .ok (.imul, 1) := by decide +kernel
theorem dX10_isCovered_12 : decode cX10_isCovered 12 = .ok (.iaload, 1) := by decide +kernel
theorem dX10_isCovered_13 : decode cX10_isCovered 13 = .ok (.istore 4, 2) := by decide +kernel
theorem dX10_isCovered_15 : decode cX10_isCovered 15 = .ok (.aload_n 0, 1) := by decide +kernel
theorem dX10_isCovered_16 : decode cX10_isCovered 16 = .ok (.getfield 13, 3) := by decide +kernel
theorem dX10_isCovered_19 : decode cX10_isCovered 19 = .ok (.iconst 5, 1) := by decide +kernel
theorem dX10_isCovered_20 : decode cX10_isCovered 20 = .ok (.iload_n 2, 1) := by decide +kernel
theorem dX10_isCovered_21 : decode cX10_isCovered 21 = .ok (.imul, 1) := by decide +kernel
theorem dX10_isCovered_22 : decode cX10_isCovered 22 = .ok (.iconst 1, 1) := by decide +kernel
theorem dX10_isCovered_23 : decode cX10_isCovered 23 = .ok (.iadd, 1) := by decide +kernel
theorem dX10_isCovered_24 : decode cX10_isCovered 24 = .ok (.iaload, 1) := by decide +kernel
theorem dX10_isCovered_25 : decode cX10_isCovered 25 = .ok (.istore 5, 2) := by decide +kernel
theorem dX10_isCovered_27 : decode cX10_isCovered 27 = .ok (.aload_n 0, 1) := by decide +kernel
theorem dX10_isCovered_28 : decode cX10_isCovered 28 = .ok (.iload 5, 2) := by decide +kernel
theorem dX10_isCovered_30 : decode cX10_isCovered 30 = .ok (.aload_n 0, 1) := by decide +kernel
theorem dX10_isCovered_31 : decode cX10_isCovered 31 = .ok (.getfield 16, 3) := by decide +kernel
theorem dX10_isCovered_34 : decode cX10_isCovered 34 = .ok (.iload_n 3, 1) := by decide +kernel
theorem dX10_isCovered_35 : decode cX10_isCovered 35 = .ok (.iconst 1, 1) := by decide +kernel
theorem dX10_isCovered_36 : decode cX10_isCovered 36 = .ok (.iadd, 1) := by decide +kernel
theorem dX10_isCovered_37 : decode cX10_isCovered 37 = .ok (.iaload, 1) := by decide +kernel
theorem dX10_isCovered_38 : decode cX10_isCovered 38 = .ok (.invokevirtual 123, 3) := by decide +kernel
theorem dX10_isCovered_41 : decode cX10_isCovered 41 = .ok (.aload_n 0, 1) := by decide +kernel
theorem dX10_isCovered_42 : decode cX10_isCovered 42 = .ok (.getfield 16, 3) := by decide +kernel
theorem dX10_isCovered_45 : decode cX10_isCovered 45 = .ok (.iload_n 3, 1) := by decide +kernel
theorem dX10_isCovered_46 : decode cX10_isCovered 46 = .ok (.iconst 3, 1) := by decide +kernel
theorem dX10_isCovered_47 : decode cX10_isCovered 47 = .ok (.iadd, 1) := by decide +kernel
theorem dX10_isCovered_48 : decode cX10_isCovered 48 = .ok (.iaload, 1) := by decide +kernel
theorem dX10_isCovered_49 : decode cX10_isCovered 49 = .ok (.if_icmp .lt 28, 3) := by decide +kernel
theorem dX10_isCovered_52 : decode cX10_isCovered 52 = .ok (.aload_n 0, 1) := by decide +kernel
theorem dX10_isCovered_53 : decode cX10_isCovered 53 = .ok (.iload 4, 2) := by decide +kernel
theorem dX10_isCovered_55 : decode cX10_isCovered 55 = .ok (.aload_n 0, 1) := by decide +kernel
theorem dX10_isCovered_56 : decode cX10_isCovered 56 = .ok (.getfield 16, 3) := by decide +kernel
theorem dX10_isCovered_59 : decode cX10_isCovered 59 = .ok (.iload_n 3, 1) := by decide +kernel
theorem dX10_isCovered_60 : decode cX10_isCovered 60 = .ok (.iconst 2, 1) := by decide +kernel
theorem dX10_isCovered_61 : decode cX10_isCovered 61 = .ok (.iadd, 1) := by decide +kernel
theorem dX10_isCovered_62 : decode cX10_isCovered 62 = .ok (.iaload, 1) := by decide +kernel
theorem dX10_isCovered_63 : decode cX10_isCovered 63 = .ok (.invokevirtual 123, 3) := by decide +kernel
theorem dX10_isCovered_66 : decode cX10_isCovered 66 = .ok (.aload_n 0, 1) := by decide +kernel
theorem dX10_isCovered_67 : decode cX10_isCovered 67 = .ok (.getfield 16, 3) := by decide +kernel
theorem dX10_isCovered_70 : decode cX10_isCovered 70 = .ok (.iload_n 3, 1) := by decide +kernel
theorem dX10_isCovered_71 : decode cX10_isCovered 71 = .ok (.iconst 3, 1) := by decide +kernel
theorem dX10_isCovered_72 : decode cX10_isCovered 72 = .ok (.iadd, 1) := by decide +kernel
theorem dX10_isCovered_73 : decode cX10_isCovered 73 = .ok (.iaload, 1) := by decide +kernel
theorem dX10_isCovered_74 : decode cX10_isCovered 74 = .ok (.if_icmp .ge 5, 3) := by decide +kernel
theorem dX10_isCovered_77 : decode cX10_isCovered 77 = .ok (.iconst 0, 1) := by decide +kernel
theorem dX10_isCovered_78 : decode cX10_isCovered 78 = .ok (.ireturn, 1) := by decide +kernel
theorem dX10_isCovered_79 : decode cX10_isCovered 79 = .ok (.aload_n 0, 1) := by decide +kernel
theorem dX10_isCovered_80 : decode cX10_isCovered 80 = .ok (.getfield 16, 3) := by decide +kernel
theorem dX10_isCovered_83 : decode cX10_isCovered 83 = .ok (.iload_n 3, 1) := by decide +kernel
theorem dX10_isCovered_84 : decode cX10_isCovered 84 = .ok (.iaload, 1) := by decide +kernel
theorem dX10_isCovered_85 : decode cX10_isCovered 85 = .ok (.iconst 1, 1) := by decide +kernel
theorem dX10_isCovered_86 : decode cX10_isCovered 86 = .ok (.if_icmp .ne 35, 3) := by decide +kernel
theorem dX10_isCovered_89 : decode cX10_isCovered 89 = .ok (.aload_n 0, 1) := by decide +kernel
theorem dX10_isCovered_90 : decode cX10_isCovered 90 = .ok (.iload 4, 2) := by decide +kernel
theorem dX10_isCovered_92 : decode cX10_isCovered 92 = .ok (.aload_n 0, 1) := by decide +kernel
theorem dX10_isCovered_93 : decode cX10_isCovered 93 = .ok (.getfield 16, 3) := by decide +kernel
theorem dX10_isCovered_96 : decode cX10_isCovered 96 = .ok (.iload_n 3, 1) := by decide +kernel
theorem dX10_isCovered_97 : decode cX10_isCovered 97 = .ok (.iconst 2, 1) := by decide +kernel
theorem dX10_isCovered_98 : decode cX10_isCovered 98 = .ok (.iadd, 1) := by decide +kernel
theorem dX10_isCovered_99 : decode cX10_isCovered 99 = .ok (.iaload, 1) := by decide +kernel
theorem dX10_isCovered_100 : decode cX10_isCovered 100 = .ok (.invokevirtual 116, 3) := by decide +kernel
theorem dX10_isCovered_103 : decode cX10_isCovered 103 = .ok (.aload_n 0, 1) := by decide +kernel
theorem dX10_isCovered_104 : decode cX10_isCovered 104 = .ok (.getfield 16, 3) := by decide +kernel
theorem dX10_isCovered_107 : decode cX10_isCovered 107 = .ok (.iload_n 3, 1) := by decide +kernel
theorem dX10_isCovered_108 : decode cX10_isCovered 108 = .ok (.iconst 4, 1) := by decide +kernel
theorem dX10_isCovered_109 : decode cX10_isCovered 109 = .ok (.iadd, 1) := by decide +kernel
theorem dX10_isCovered_110 : decode cX10_isCovered 110 = .ok (.iaload, 1) := by decide +kernel
theorem dX10_isCovered_111 : decode cX10_isCovered 111 = .ok (.iand, 1) := by decide +kernel
theorem dX10_isCovered_112 : decode cX10_isCovered 112 = .ok (.ifCond .eq 7, 3) := by decide +kernel
theorem dX10_isCovered_115 : decode cX10_isCovered 115 = .ok (.iconst 1, 1) := by decide +kernel
theorem dX10_isCovered_116 : decode cX10_isCovered 116 = .ok (.goto 4, 3) := by decide +kernel
theorem dX10_isCovered_119 : decode cX10_isCovered 119 = .ok (.iconst 0, 1) := by decide +kernel
theorem dX10_isCovered_120 : decode cX10_isCovered 120 = .ok (.ireturn, 1) := by decide +kernel
theorem dX10_isCovered_121 : decode cX10_isCovered 121 = .ok (.aload_n 0, 1) := by decide +kernel
theorem dX10_isCovered_122 : decode cX10_isCovered 122 = .ok (.getfield 16, 3) := by decide +kernel
theorem dX10_isCovered_125 : decode cX10_isCovered 125 = .ok (.iload_n 3, 1) := by decide +kernel
theorem dX10_isCovered_126 : decode cX10_isCovered 126 = .ok (.iaload, 1) := by decide +kernel
theorem dX10_isCovered_127 : decode cX10_isCovered 127 = .ok (.iconst 2, 1) := by decide +kernel
theorem dX10_isCovered_128 : decode cX10_isCovered 128 = .ok (.if_icmp .ne 13, 3) := by decide +kernel
theorem dX10_isCovered_131 : decode cX10_isCovered 131 = .ok (.iload 4, 2) := by decide +kernel
theorem dX10_isCovered_133 : decode cX10_isCovered 133 = .ok (.iload 5, 2) := by decide +kernel
theorem dX10_isCovered_135 : decode cX10_isCovered 135 = .ok (.iconst (-1), 1) := by decide +kernel
theorem dX10_isCovered_136 : decode cX10_isCovered 136 = .ok (.ixor, 1) := by decide +kernel
theorem dX10_isCovered_137 : decode cX10_isCovered 137 = .ok (.iand, 1) := by decide +kernel
theorem dX10_isCovered_138 : decode cX10_isCovered 138 = .ok (.ifCond .ne 7, 3) := by decide +kernel
theorem dX10_isCovered_141 : decode cX10_isCovered 141 = .ok (.iconst 1, 1) := by decide +kernel
theorem dX10_isCovered_142 : decode cX10_isCovered 142 = .ok (.goto 4, 3) := by decide +kernel
theorem dX10_isCovered_145 : decode cX10_isCovered 145 = .ok (.iconst 0, 1) := by decide +kernel
theorem dX10_isCovered_146 : decode cX10_isCovered 146 = .ok (.ireturn, 1) := by decide +kernel
theorem dX10_standing_0 : decode cX10_standing 0 = .ok (.bipush 8, 2) := by decide +kernel
theorem dX10_standing_2 : decode cX10_standing 2 = .ok (.iload_n 1, 1) := by decide +kernel
theorem dX10_standing_3 : decode cX10_standing 3 = .ok (.imul, 1) := by decide +kernel
theorem dX10_standing_4 : decode cX10_standing 4 = .ok (.istore_n 3, 1) := by decide +kernel
theorem dX10_standing_5 : decode cX10_standing 5 = .ok (.aload_n 0, 1) := by decide +kernel
theorem dX10_standing_6 : decode cX10_standing 6 = .ok (.getfield 22, 3) := by decide +kernel
theorem dX10_standing_9 : decode cX10_standing 9 = .ok (.iconst 0, 1) := by decide +kernel
theorem dX10_standing_10 : decode cX10_standing 10 = .ok (.iaload, 1) := by decide +kernel
theorem dX10_standing_11 : decode cX10_standing 11 = .ok (.aload_n 0, 1) := by decide +kernel
theorem dX10_standing_12 : decode cX10_standing 12 = .ok (.getfield 16, 3) := by decide +kernel
theorem dX10_standing_15 : decode cX10_standing 15 = .ok (.iload_n 3, 1) := by decide +kernel
theorem dX10_standing_16 : decode cX10_standing 16 = .ok (.iconst 1, 1) := by decide +kernel
theorem dX10_standing_17 : decode cX10_standing 17 = .ok (.iadd, 1) := by decide +kernel
theorem dX10_standing_18 : decode cX10_standing 18 = .ok (.iaload, 1) := by decide +kernel
theorem dX10_standing_19 : decode cX10_standing 19 = .ok (.if_icmp .ne 7, 3) := by decide +kernel
theorem dX10_standing_22 : decode cX10_standing 22 = .ok (.iconst 1, 1) := by decide +kernel
theorem dX10_standing_23 : decode cX10_standing 23 = .ok (.goto 4, 3) := by decide +kernel
theorem dX10_standing_26 : decode cX10_standing 26 = .ok (.iconst 0, 1) := by decide +kernel
theorem dX10_standing_27 : decode cX10_standing 27 = .ok (.istore 4, 2) := by decide +kernel
theorem dX10_standing_29 : decode cX10_standing 29 = .ok (.iload 4, 2) := by decide +kernel
theorem dX10_standing_31 : decode cX10_standing 31 = .ok (.aload_n 0, 1) := by decide +kernel
theorem dX10_standing_32 : decode cX10_standing 32 = .ok (.getfield 13, 3) := by decide +kernel
theorem dX10_standing_35 : decode cX10_standing 35 = .ok (.iconst 5, 1) := by decide +kernel
theorem dX10_standing_36 : decode cX10_standing 36 = .ok (.iload_n 2, 1) := by decide +kernel
theorem dX10_standing_37 : decode cX10_standing 37 = .ok (.imul, 1) := by decide +kernel
theorem dX10_standing_38 : decode cX10_standing 38 = .ok (.iconst 4, 1) := by decide +kernel
theorem dX10_standing_39 : decode cX10_standing 39 = .ok (.iadd, 1) := by decide +kernel
theorem dX10_standing_40 : decode cX10_standing 40 = .ok (.iaload, 1) := by decide +kernel
theorem dX10_standing_41 : decode cX10_standing 41 = .ok (.iconst 1, 1) := by decide +kernel
theorem dX10_standing_42 : decode cX10_standing 42 = .ok (.if_icmp .ne 7, 3) := by decide +kernel
theorem dX10_standing_45 : decode cX10_standing 45 = .ok (.iconst 2, 1) := by decide +kernel
theorem dX10_standing_46 : decode cX10_standing 46 = .ok (.goto 4, 3) := by decide +kernel
theorem dX10_standing_49 : decode cX10_standing 49 = .ok (.iconst 0, 1) := by decide +kernel
theorem dX10_standing_50 : decode cX10_standing 50 = .ok (.ior, 1) := by decide +kernel
theorem dX10_standing_51 : decode cX10_standing 51 = .ok (.istore 4, 2) := by decide +kernel
theorem dX10_standing_53 : decode cX10_standing 53 = .ok (.iload 4, 2) := by decide +kernel
theorem dX10_standing_55 : decode cX10_standing 55 = .ok (.aload_n 0, 1) := by decide +kernel
theorem dX10_standing_56 : decode cX10_standing 56 = .ok (.getfield 13, 3) := by decide +kernel
theorem dX10_standing_59 : decode cX10_standing 59 = .ok (.iconst 5, 1) := by decide +kernel
theorem dX10_standing_60 : decode cX10_standing 60 = .ok (.iload_n 2, 1) := by decide +kernel
theorem dX10_standing_61 : decode cX10_standing 61 = .ok (.imul, 1) := by decide +kernel
theorem dX10_standing_62 : decode cX10_standing 62 = .ok (.iaload, 1) := by decide +kernel
theorem dX10_standing_63 : decode cX10_standing 63 = .ok (.bipush 32, 2) := by decide +kernel
theorem dX10_standing_65 : decode cX10_standing 65 = .ok (.iand, 1) := by decide +kernel
theorem dX10_standing_66 : decode cX10_standing 66 = .ok (.ifCond .eq 7, 3) := by decide +kernel
theorem dX10_standing_69 : decode cX10_standing 69 = .ok (.iconst 4, 1) := by decide +kernel
theorem dX10_standing_70 : decode cX10_standing 70 = .ok (.goto 4, 3) := by decide +kernel
theorem dX10_standing_73 : decode cX10_standing 73 = .ok (.iconst 0, 1) := by decide +kernel
theorem dX10_standing_74 : decode cX10_standing 74 = .ok (.ior, 1) := by decide +kernel
theorem dX10_standing_75 : decode cX10_standing 75 = .ok (.istore 4, 2) := by decide +kernel
theorem dX10_standing_77 : decode cX10_standing 77 = .ok (.iload 4, 2) := by decide +kernel
theorem dX10_standing_79 : decode cX10_standing 79 = .ok (.aload_n 0, 1) := by decide +kernel
theorem dX10_standing_80 : decode cX10_standing 80 = .ok (.iload_n 2, 1) := by decide +kernel
theorem dX10_standing_81 : decode cX10_standing 81 = .ok (.aload_n 0, 1) := by decide +kernel
theorem dX10_standing_82 : decode cX10_standing 82 = .ok (.getfield 16, 3) := by decide +kernel
theorem dX10_standing_85 : decode cX10_standing 85 = .ok (.iload_n 3, 1) := by decide +kernel
theorem dX10_standing_86 : decode cX10_standing 86 = .ok (.iconst 2, 1) := by decide +kernel
theorem dX10_standing_87 : decode cX10_standing 87 = .ok (.iadd, 1) := by decide +kernel
theorem dX10_standing_88 : decode cX10_standing 88 = .ok (.iaload, 1) := by decide +kernel
theorem dX10_standing_89 : decode cX10_standing 89 = .ok (.invokevirtual 135, 3) := by decide +kernel
theorem dX10_standing_92 : decode cX10_standing 92 = .ok (.ifCond .eq 22, 3) := by decide +kernel
theorem dX10_standing_95 : decode cX10_standing 95 = .ok (.aload_n 0, 1) := by decide +kernel
theorem dX10_standing_96 : decode cX10_standing 96 = .ok (.getfield 16, 3) := by decide +kernel
theorem dX10_standing_99 : decode cX10_standing 99 = .ok (.iload_n 3, 1) := by decide +kernel
theorem dX10_standing_100 : decode cX10_standing 100 = .ok (.bipush 7, 2) := by decide +kernel
theorem dX10_standing_102 : decode cX10_standing 102 = .ok (.iadd, 1) := by decide +kernel
theorem dX10_standing_103 : decode cX10_standing 103 = .ok (.iaload, 1) := by decide +kernel
theorem dX10_standing_104 : decode cX10_standing 104 = .ok (.iconst 1, 1) := by decide +kernel
theorem dX10_standing_105 : decode cX10_standing 105 = .ok (.iand, 1) := by decide +kernel
theorem dX10_standing_106 : decode cX10_standing 106 = .ok (.ifCond .ne 8, 3) := by decide +kernel
theorem dX10_standing_109 : decode cX10_standing 109 = .ok (.bipush 8, 2) := by decide +kernel
theorem dX10_standing_111 : decode cX10_standing 111 = .ok (.goto 4, 3) := by decide +kernel
theorem dX10_standing_114 : decode cX10_standing 114 = .ok (.iconst 0, 1) := by decide +kernel
theorem dX10_standing_115 : decode cX10_standing 115 = .ok (.ior, 1) := by decide +kernel
theorem dX10_standing_116 : decode cX10_standing 116 = .ok (.istore 4, 2) := by decide +kernel
theorem dX10_standing_118 : decode cX10_standing 118 = .ok (.iload 4, 2) := by decide +kernel
theorem dX10_standing_120 : decode cX10_standing 120 = .ok (.aload_n 0, 1) := by decide +kernel
theorem dX10_standing_121 : decode cX10_standing 121 = .ok (.getfield 13, 3) := by decide +kernel
theorem dX10_standing_124 : decode cX10_standing 124 = .ok (.iconst 5, 1) := by decide +kernel
theorem dX10_standing_125 : decode cX10_standing 125 = .ok (.iload_n 2, 1) := by decide +kernel
theorem dX10_standing_126 : decode cX10_standing 126 = .ok (.imul, 1) := by decide +kernel
theorem dX10_standing_127 : decode cX10_standing 127 = .ok (.iconst 2, 1) := by decide +kernel
theorem dX10_standing_128 : decode cX10_standing 128 = .ok (.iadd, 1) := by decide +kernel
theorem dX10_standing_129 : decode cX10_standing 129 = .ok (.iaload, 1) := by decide +kernel
theorem dX10_standing_130 : decode cX10_standing 130 = .ok (.aload_n 0, 1) := by decide +kernel
theorem dX10_standing_131 : decode cX10_standing 131 = .ok (.getfield 16, 3) := by decide +kernel
theorem dX10_standing_134 : decode cX10_standing 134 = .ok (.iload_n 3, 1) := by decide +kernel
theorem dX10_standing_135 : decode cX10_standing 135 = .ok (.iconst 1, 1) := by decide +kernel
theorem dX10_standing_136 : decode cX10_standing 136 = .ok (.iadd, 1) := by decide +kernel
theorem dX10_standing_137 : decode cX10_standing 137 = .ok (.iaload, 1) := by decide +kernel
theorem dX10_standing_138 : decode cX10_standing 138 = .ok (.if_icmp .ne 8, 3) := by decide +kernel
theorem dX10_standing_141 : decode cX10_standing 141 = .ok (.bipush 16, 2) := by decide +kernel
theorem dX10_standing_143 : decode cX10_standing 143 = .ok (.goto 4, 3) := by decide +kernel
theorem dX10_standing_146 : decode cX10_standing 146 = .ok (.iconst 0, 1) := by decide +kernel
theorem dX10_standing_147 : decode cX10_standing 147 = .ok (.ior, 1) := by decide +kernel
theorem dX10_standing_148 : decode cX10_standing 148 = .ok (.istore 4, 2) := by decide +kernel
theorem dX10_standing_150 : decode cX10_standing 150 = .ok (.aload_n 0, 1) := by decide +kernel
theorem dX10_standing_151 : decode cX10_standing 151 = .ok (.getfield 16, 3) := by decide +kernel
theorem dX10_standing_154 : decode cX10_standing 154 = .ok (.iload_n 3, 1) := by decide +kernel
theorem dX10_standing_155 : decode cX10_standing 155 = .ok (.bipush 6, 2) := by decide +kernel
theorem dX10_standing_157 : decode cX10_standing 157 = .ok (.iadd, 1) := by decide +kernel
theorem dX10_standing_158 : decode cX10_standing 158 = .ok (.iaload, 1) := by decide +kernel
theorem dX10_standing_159 : decode cX10_standing 159 = .ok (.ifCond .le 36, 3) := by decide +kernel
theorem dX10_standing_162 : decode cX10_standing 162 = .ok (.aload_n 0, 1) := by decide +kernel
theorem dX10_standing_163 : decode cX10_standing 163 = .ok (.getfield 22, 3) := by decide +kernel
theorem dX10_standing_166 : decode cX10_standing 166 = .ok (.iconst 2, 1) := by decide +kernel
theorem dX10_standing_167 : decode cX10_standing 167 = .ok (.iaload, 1) := by decide +kernel
theorem dX10_standing_168 : decode cX10_standing 168 = .ok (.aload_n 0, 1) := by decide +kernel
theorem dX10_standing_169 : decode cX10_standing 169 = .ok (.getfield 13, 3) := by decide +kernel
theorem dX10_standing_172 : decode cX10_standing 172 = .ok (.iconst 5, 1) := by decide +kernel
theorem dX10_standing_173 : decode cX10_standing 173 = .ok (.iload_n 2, 1) := by decide +kernel
theorem dX10_standing_174 : decode cX10_standing 174 = .ok (.imul, 1) := by decide +kernel
theorem dX10_standing_175 : decode cX10_standing 175 = .ok (.iconst 3, 1) := by decide +kernel
theorem dX10_standing_176 : decode cX10_standing 176 = .ok (.iadd, 1) := by decide +kernel
theorem dX10_standing_177 : decode cX10_standing 177 = .ok (.iaload, 1) := by decide +kernel
theorem dX10_standing_178 : decode cX10_standing 178 = .ok (.isub, 1) := by decide +kernel
theorem dX10_standing_179 : decode cX10_standing 179 = .ok (.aload_n 0, 1) := by decide +kernel
theorem dX10_standing_180 : decode cX10_standing 180 = .ok (.getfield 16, 3) := by decide +kernel
theorem dX10_standing_183 : decode cX10_standing 183 = .ok (.iload_n 3, 1) := by decide +kernel
theorem dX10_standing_184 : decode cX10_standing 184 = .ok (.bipush 6, 2) := by decide +kernel
theorem dX10_standing_186 : decode cX10_standing 186 = .ok (.iadd, 1) := by decide +kernel
theorem dX10_standing_187 : decode cX10_standing 187 = .ok (.iaload, 1) := by decide +kernel
theorem dX10_standing_188 : decode cX10_standing 188 = .ok (.if_icmp .le 7, 3) := by decide +kernel
theorem dX10_standing_191 : decode cX10_standing 191 = .ok (.iconst 1, 1) := by decide +kernel
theorem dX10_standing_192 : decode cX10_standing 192 = .ok (.goto 4, 3) := by decide +kernel
theorem dX10_standing_195 : decode cX10_standing 195 = .ok (.iconst 0, 1) := by decide +kernel
theorem dX10_standing_196 : decode cX10_standing 196 = .ok (.istore 5, 2) := by decide +kernel
theorem dX10_standing_198 : decode cX10_standing 198 = .ok (.iload 4, 2) := by decide +kernel
theorem dX10_standing_200 : decode cX10_standing 200 = .ok (.aload_n 0, 1) := by decide +kernel
theorem dX10_standing_201 : decode cX10_standing 201 = .ok (.getfield 16, 3) := by decide +kernel
theorem dX10_standing_204 : decode cX10_standing 204 = .ok (.iload_n 3, 1) := by decide +kernel
theorem dX10_standing_205 : decode cX10_standing 205 = .ok (.iconst 5, 1) := by decide +kernel
theorem dX10_standing_206 : decode cX10_standing 206 = .ok (.iadd, 1) := by decide +kernel
theorem dX10_standing_207 : decode cX10_standing 207 = .ok (.iaload, 1) := by decide +kernel
theorem dX10_standing_208 : decode cX10_standing 208 = .ok (.iand, 1) := by decide +kernel
theorem dX10_standing_209 : decode cX10_standing 209 = .ok (.iload 5, 2) := by decide +kernel
theorem dX10_standing_211 : decode cX10_standing 211 = .ok (.ifCond .eq 8, 3) := by decide +kernel
theorem dX10_standing_214 : decode cX10_standing 214 = .ok (.bipush 32, 2) := by decide +kernel
theorem dX10_standing_216 : decode cX10_standing 216 = .ok (.goto 4, 3) := by decide +kernel
theorem dX10_standing_219 : decode cX10_standing 219 = .ok (.iconst 0, 1) := by decide +kernel
theorem dX10_standing_220 : decode cX10_standing 220 = .ok (.ior, 1) := by decide +kernel
theorem dX10_standing_221 : decode cX10_standing 221 = .ok (.ireturn, 1) := by decide +kernel
theorem dX10_covers_0 : decode cX10_covers 0 = .ok (.aload_n 0, 1) := by decide +kernel
theorem dX10_covers_1 : decode cX10_covers 1 = .ok (.iload_n 1, 1) := by decide +kernel
theorem dX10_covers_2 : decode cX10_covers 2 = .ok (.invokevirtual 109, 3) := by decide +kernel
theorem dX10_covers_5 : decode cX10_covers 5 = .ok (.ifCond .ne 5, 3) := by decide +kernel
theorem dX10_covers_8 : decode cX10_covers 8 = .ok (.iconst (-1), 1) := by decide +kernel
theorem dX10_covers_9 : decode cX10_covers 9 = .ok (.ireturn, 1) := by decide +kernel
theorem dX10_covers_10 : decode cX10_covers 10 = .ok (.iconst 0, 1) := by decide +kernel
theorem dX10_covers_11 : decode cX10_covers 11 = .ok (.istore_n 2, 1) := by decide +kernel
theorem dX10_covers_12 : decode cX10_covers 12 = .ok (.iconst 0, 1) := by decide +kernel
theorem dX10_covers_13 : decode cX10_covers 13 = .ok (.istore_n 3, 1) := by decide +kernel
theorem dX10_covers_14 : decode cX10_covers 14 = .ok (.iload_n 3, 1) := by decide +kernel
theorem dX10_covers_15 : decode cX10_covers 15 = .ok (.aload_n 0, 1) := by decide +kernel
theorem dX10_covers_16 : decode cX10_covers 16 = .ok (.getfield 73, 3) := by decide +kernel
theorem dX10_covers_19 : decode cX10_covers 19 = .ok (.if_icmp .ge 28, 3) := by decide +kernel
theorem dX10_covers_22 : decode cX10_covers 22 = .ok (.iload_n 2, 1) := by decide +kernel
theorem dX10_covers_23 : decode cX10_covers 23 = .ok (.aload_n 0, 1) := by decide +kernel
theorem dX10_covers_24 : decode cX10_covers 24 = .ok (.iload_n 1, 1) := by decide +kernel
theorem dX10_covers_25 : decode cX10_covers 25 = .ok (.iload_n 3, 1) := by decide +kernel
theorem dX10_covers_26 : decode cX10_covers 26 = .ok (.invokevirtual 138, 3) := by decide +kernel
theorem dX10_covers_29 : decode cX10_covers 29 = .ok (.ifCond .eq 9, 3) := by decide +kernel
theorem dX10_covers_32 : decode cX10_covers 32 = .ok (.iconst 1, 1) := by decide +kernel
theorem dX10_covers_33 : decode cX10_covers 33 = .ok (.iload_n 3, 1) := by decide +kernel
theorem dX10_covers_34 : decode cX10_covers 34 = .ok (.ishl, 1) := by decide +kernel
theorem dX10_covers_35 : decode cX10_covers 35 = .ok (.goto 4, 3) := by decide +kernel
theorem dX10_covers_38 : decode cX10_covers 38 = .ok (.iconst 0, 1) := by decide +kernel
theorem dX10_covers_39 : decode cX10_covers 39 = .ok (.ior, 1) := by decide +kernel
theorem dX10_covers_40 : decode cX10_covers 40 = .ok (.istore_n 2, 1) := by decide +kernel
theorem dX10_covers_41 : decode cX10_covers 41 = .ok (.iinc 3 1, 3) := by decide +kernel
theorem dX10_covers_44 : decode cX10_covers 44 = .ok (.goto (-30), 3) := by decide +kernel
theorem dX10_covers_47 : decode cX10_covers 47 = .ok (.iload_n 2, 1) := by decide +kernel
theorem dX10_covers_48 : decode cX10_covers 48 = .ok (.ireturn, 1) := by decide +kernel
theorem dX10_barred_0 : decode cX10_barred 0 = .ok (.aload_n 0, 1) := by decide +kernel
theorem dX10_barred_1 : decode cX10_barred 1 = .ok (.iload_n 1, 1) := by decide +kernel
theorem dX10_barred_2 : decode cX10_barred 2 = .ok (.invokevirtual 109, 3) := by decide +kernel
theorem dX10_barred_5 : decode cX10_barred 5 = .ok (.ifCond .eq 20, 3) := by decide +kernel
theorem dX10_barred_8 : decode cX10_barred 8 = .ok (.aload_n 0, 1) := by decide +kernel
theorem dX10_barred_9 : decode cX10_barred 9 = .ok (.iload_n 2, 1) := by decide +kernel
theorem dX10_barred_10 : decode cX10_barred 10 = .ok (.invokevirtual 120, 3) := by decide +kernel
theorem dX10_barred_13 : decode cX10_barred 13 = .ok (.ifCond .eq 12, 3) := by decide +kernel
theorem dX10_barred_16 : decode cX10_barred 16 = .ok (.aload_n 0, 1) := by decide +kernel
theorem dX10_barred_17 : decode cX10_barred 17 = .ok (.iload_n 1, 1) := by decide +kernel
theorem dX10_barred_18 : decode cX10_barred 18 = .ok (.iload_n 2, 1) := by decide +kernel
theorem dX10_barred_19 : decode cX10_barred 19 = .ok (.invokevirtual 141, 3) := by decide +kernel
theorem dX10_barred_22 : decode cX10_barred 22 = .ok (.goto 4, 3) := by decide +kernel
theorem dX10_barred_25 : decode cX10_barred 25 = .ok (.iconst (-1), 1) := by decide +kernel
theorem dX10_barred_26 : decode cX10_barred 26 = .ok (.ireturn, 1) := by decide +kernel
theorem dX10_mayGo_0 : decode cX10_mayGo 0 = .ok (.bipush 8, 2) := by decide +kernel
theorem dX10_mayGo_2 : decode cX10_mayGo 2 = .ok (.iload_n 1, 1) := by decide +kernel
theorem dX10_mayGo_3 : decode cX10_mayGo 3 = .ok (.imul, 1) := by decide +kernel
theorem dX10_mayGo_4 : decode cX10_mayGo 4 = .ok (.istore 6, 2) := by decide +kernel
theorem dX10_mayGo_6 : decode cX10_mayGo 6 = .ok (.iload_n 3, 1) := by decide +kernel
theorem dX10_mayGo_7 : decode cX10_mayGo 7 = .ok (.ifCond .eq 36, 3) := by decide +kernel
theorem dX10_mayGo_10 : decode cX10_mayGo 10 = .ok (.aload_n 0, 1) := by decide +kernel
theorem dX10_mayGo_11 : decode cX10_mayGo 11 = .ok (.getfield 16, 3) := by decide +kernel
theorem dX10_mayGo_14 : decode cX10_mayGo 14 = .ok (.iload 6, 2) := by decide +kernel
theorem dX10_mayGo_16 : decode cX10_mayGo 16 = .ok (.bipush 7, 2) := by decide +kernel
theorem dX10_mayGo_18 : decode cX10_mayGo 18 = .ok (.iadd, 1) := by decide +kernel
theorem dX10_mayGo_19 : decode cX10_mayGo 19 = .ok (.iaload, 1) := by decide +kernel
theorem dX10_mayGo_20 : decode cX10_mayGo 20 = .ok (.iconst 1, 1) := by decide +kernel
theorem dX10_mayGo_21 : decode cX10_mayGo 21 = .ok (.iand, 1) := by decide +kernel
theorem dX10_mayGo_22 : decode cX10_mayGo 22 = .ok (.iconst 1, 1) := by decide +kernel
theorem dX10_mayGo_23 : decode cX10_mayGo 23 = .ok (.if_icmp .eq 20, 3) := by decide +kernel
theorem dX10_mayGo_26 : decode cX10_mayGo 26 = .ok (.aload_n 0, 1) := by decide +kernel
theorem dX10_mayGo_27 : decode cX10_mayGo 27 = .ok (.iload_n 2, 1) := by decide +kernel
theorem dX10_mayGo_28 : decode cX10_mayGo 28 = .ok (.aload_n 0, 1) := by decide +kernel
theorem dX10_mayGo_29 : decode cX10_mayGo 29 = .ok (.getfield 16, 3) := by decide +kernel
theorem dX10_mayGo_32 : decode cX10_mayGo 32 = .ok (.iload 6, 2) := by decide +kernel
theorem dX10_mayGo_34 : decode cX10_mayGo 34 = .ok (.iconst 2, 1) := by decide +kernel
theorem dX10_mayGo_35 : decode cX10_mayGo 35 = .ok (.iadd, 1) := by decide +kernel
theorem dX10_mayGo_36 : decode cX10_mayGo 36 = .ok (.iaload, 1) := by decide +kernel
theorem dX10_mayGo_37 : decode cX10_mayGo 37 = .ok (.invokevirtual 135, 3) := by decide +kernel
theorem dX10_mayGo_40 : decode cX10_mayGo 40 = .ok (.ifCond .ne 7, 3) := by decide +kernel
theorem dX10_mayGo_43 : decode cX10_mayGo 43 = .ok (.iconst 1, 1) := by decide +kernel
theorem dX10_mayGo_44 : decode cX10_mayGo 44 = .ok (.goto 4, 3) := by decide +kernel
theorem dX10_mayGo_47 : decode cX10_mayGo 47 = .ok (.iconst 0, 1) := by decide +kernel
theorem dX10_mayGo_48 : decode cX10_mayGo 48 = .ok (.istore 7, 2) := by decide +kernel
theorem dX10_mayGo_50 : decode cX10_mayGo 50 = .ok (.iload 7, 2) := by decide +kernel
theorem dX10_mayGo_52 : decode cX10_mayGo 52 = .ok (.ifCond .eq 36, 3) := by decide +kernel
theorem dX10_mayGo_55 : decode cX10_mayGo 55 = .ok (.iload 4, 2) := by decide +kernel
theorem dX10_mayGo_57 : decode cX10_mayGo 57 = .ok (.ifCond .lt 17, 3) := by decide +kernel
theorem dX10_mayGo_60 : decode cX10_mayGo 60 = .ok (.aload_n 0, 1) := by decide +kernel
theorem dX10_mayGo_61 : decode cX10_mayGo 61 = .ok (.getfield 16, 3) := by decide +kernel
theorem dX10_mayGo_64 : decode cX10_mayGo 64 = .ok (.iload 6, 2) := by decide +kernel
theorem dX10_mayGo_66 : decode cX10_mayGo 66 = .ok (.iconst 2, 1) := by decide +kernel
theorem dX10_mayGo_67 : decode cX10_mayGo 67 = .ok (.iadd, 1) := by decide +kernel
theorem dX10_mayGo_68 : decode cX10_mayGo 68 = .ok (.iaload, 1) := by decide +kernel
theorem dX10_mayGo_69 : decode cX10_mayGo 69 = .ok (.iload 4, 2) := by decide +kernel
theorem dX10_mayGo_71 : decode cX10_mayGo 71 = .ok (.if_icmp .ne 17, 3) := by decide +kernel
theorem dX10_mayGo_74 : decode cX10_mayGo 74 = .ok (.iload 5, 2) := by decide +kernel
theorem dX10_mayGo_76 : decode cX10_mayGo 76 = .ok (.iload_n 2, 1) := by decide +kernel
theorem dX10_mayGo_77 : decode cX10_mayGo 77 = .ok (.ishr, 1) := by decide +kernel
theorem dX10_mayGo_78 : decode cX10_mayGo 78 = .ok (.iconst 1, 1) := by decide +kernel
theorem dX10_mayGo_79 : decode cX10_mayGo 79 = .ok (.iand, 1) := by decide +kernel
theorem dX10_mayGo_80 : decode cX10_mayGo 80 = .ok (.iconst 1, 1) := by decide +kernel
theorem dX10_mayGo_81 : decode cX10_mayGo 81 = .ok (.if_icmp .ne 7, 3) := by decide +kernel
theorem dX10_mayGo_84 : decode cX10_mayGo 84 = .ok (.iconst 1, 1) := by decide +kernel
theorem dX10_mayGo_85 : decode cX10_mayGo 85 = .ok (.goto 4, 3) := by decide +kernel
theorem dX10_mayGo_88 : decode cX10_mayGo 88 = .ok (.iconst 0, 1) := by decide +kernel
theorem dX10_mayGo_89 : decode cX10_mayGo 89 = .ok (.ireturn, 1) := by decide +kernel
theorem dX10_findOpen_0 : decode cX10_findOpen 0 = .ok (.iconst 0, 1) := by decide +kernel
theorem dX10_findOpen_1 : decode cX10_findOpen 1 = .ok (.istore_n 1, 1) := by decide +kernel
theorem dX10_findOpen_2 : decode cX10_findOpen 2 = .ok (.iload_n 1, 1) := by decide +kernel
theorem dX10_findOpen_3 : decode cX10_findOpen 3 = .ok (.aload_n 0, 1) := by decide +kernel
theorem dX10_findOpen_4 : decode cX10_findOpen 4 = .ok (.getfield 77, 3) := by decide +kernel
theorem dX10_findOpen_7 : decode cX10_findOpen 7 = .ok (.if_icmp .ge 66, 3) := by decide +kernel
theorem dX10_findOpen_10 : decode cX10_findOpen 10 = .ok (.aload_n 0, 1) := by decide +kernel
theorem dX10_findOpen_11 : decode cX10_findOpen 11 = .ok (.getfield 25, 3) := by decide +kernel
theorem dX10_findOpen_14 : decode cX10_findOpen 14 = .ok (.iload_n 1, 1) := by decide +kernel
theorem dX10_findOpen_15 : decode cX10_findOpen 15 = .ok (.iconst 0, 1) := by decide +kernel
theorem dX10_findOpen_16 : decode cX10_findOpen 16 = .ok (.iastore, 1) := by decide +kernel
theorem dX10_findOpen_17 : decode cX10_findOpen 17 = .ok (.iconst 0, 1) := by decide +kernel
theorem dX10_findOpen_18 : decode cX10_findOpen 18 = .ok (.istore_n 2, 1) := by decide +kernel
theorem dX10_findOpen_19 : decode cX10_findOpen 19 = .ok (.iload_n 2, 1) := by decide +kernel
theorem dX10_findOpen_20 : decode cX10_findOpen 20 = .ok (.aload_n 0, 1) := by decide +kernel
theorem dX10_findOpen_21 : decode cX10_findOpen 21 = .ok (.getfield 73, 3) := by decide +kernel
theorem dX10_findOpen_24 : decode cX10_findOpen 24 = .ok (.if_icmp .ge 43, 3) := by decide +kernel
theorem dX10_findOpen_27 : decode cX10_findOpen 27 = .ok (.aload_n 0, 1) := by decide +kernel
theorem dX10_findOpen_28 : decode cX10_findOpen 28 = .ok (.getfield 25, 3) := by decide +kernel
theorem dX10_findOpen_31 : decode cX10_findOpen 31 = .ok (.iload_n 1, 1) := by decide +kernel
theorem dX10_findOpen_32 : decode cX10_findOpen 32 = .ok (.dup2, 1) := by decide +kernel
theorem dX10_findOpen_33 : decode cX10_findOpen 33 = .ok (.iaload, 1) := by decide +kernel
theorem dX10_findOpen_34 : decode cX10_findOpen 34 = .ok (.aload_n 0, 1) := by decide +kernel
theorem dX10_findOpen_35 : decode cX10_findOpen 35 = .ok (.iload_n 1, 1) := by decide +kernel
theorem dX10_findOpen_36 : decode cX10_findOpen 36 = .ok (.iload_n 2, 1) := by decide +kernel
theorem dX10_findOpen_37 : decode cX10_findOpen 37 = .ok (.invokevirtual 138, 3) := by decide +kernel
theorem dX10_findOpen_40 : decode cX10_findOpen 40 = .ok (.ifCond .eq 18, 3) := by decide +kernel
theorem dX10_findOpen_43 : decode cX10_findOpen 43 = .ok (.aload_n 0, 1) := by decide +kernel
theorem dX10_findOpen_44 : decode cX10_findOpen 44 = .ok (.iload_n 1, 1) := by decide +kernel
theorem dX10_findOpen_45 : decode cX10_findOpen 45 = .ok (.iload_n 2, 1) := by decide +kernel
theorem dX10_findOpen_46 : decode cX10_findOpen 46 = .ok (.invokevirtual 141, 3) := by decide +kernel
theorem dX10_findOpen_49 : decode cX10_findOpen 49 = .ok (.ifCond .ne 9, 3) := by decide +kernel
theorem dX10_findOpen_52 : decode cX10_findOpen 52 = .ok (.iconst 1, 1) := by decide +kernel
theorem dX10_findOpen_53 : decode cX10_findOpen 53 = .ok (.iload_n 2, 1) := by decide +kernel
theorem dX10_findOpen_54 : decode cX10_findOpen 54 = .ok (.ishl, 1) := by decide +kernel
theorem dX10_findOpen_55 : decode cX10_findOpen 55 = .ok (.goto 4, 3) := by decide +kernel
theorem dX10_findOpen_58 : decode cX10_findOpen 58 = .ok (.iconst 0, 1) := by decide +kernel
theorem dX10_findOpen_59 : decode cX10_findOpen 59 = .ok (.ior, 1) := by decide +kernel
theorem dX10_findOpen_60 : decode cX10_findOpen 60 = .ok (.iastore, 1) := by decide +kernel
theorem dX10_findOpen_61 : decode cX10_findOpen 61 = .ok (.iinc 2 1, 3) := by decide +kernel
theorem dX10_findOpen_64 : decode cX10_findOpen 64 = .ok (.goto (-45), 3) := by decide +kernel
theorem dX10_findOpen_67 : decode cX10_findOpen 67 = .ok (.iinc 1 1, 3) := by decide +kernel
theorem dX10_findOpen_70 : decode cX10_findOpen 70 = .ok (.goto (-68), 3) := by decide +kernel
theorem dX10_findOpen_73 : decode cX10_findOpen 73 = .ok (.return_, 1) := by decide +kernel
theorem dX10_goes_0 : decode cX10_goes 0 = .ok (.iconst 0, 1) := by decide +kernel
theorem dX10_goes_1 : decode cX10_goes 1 = .ok (.istore 6, 2) := by decide +kernel
theorem dX10_goes_3 : decode cX10_goes 3 = .ok (.iconst 0, 1) := by decide +kernel
theorem dX10_goes_4 : decode cX10_goes 4 = .ok (.istore 7, 2) := by decide +kernel
theorem dX10_goes_6 : decode cX10_goes 6 = .ok (.iload 7, 2) := by decide +kernel
theorem dX10_goes_8 : decode cX10_goes 8 = .ok (.aload_n 0, 1) := by decide +kernel
theorem dX10_goes_9 : decode cX10_goes 9 = .ok (.getfield 73, 3) := by decide +kernel
theorem dX10_goes_12 : decode cX10_goes 12 = .ok (.if_icmp .ge 67, 3) := by decide +kernel
theorem dX10_goes_15 : decode cX10_goes 15 = .ok (.aload_n 0, 1) := by decide +kernel
theorem dX10_goes_16 : decode cX10_goes 16 = .ok (.getfield 16, 3) := by decide +kernel
theorem dX10_goes_19 : decode cX10_goes 19 = .ok (.bipush 8, 2) := by decide +kernel
theorem dX10_goes_21 : decode cX10_goes 21 = .ok (.iload_n 1, 1) := by decide +kernel
theorem dX10_goes_22 : decode cX10_goes 22 = .ok (.imul, 1) := by decide +kernel
theorem dX10_goes_23 : decode cX10_goes 23 = .ok (.iconst 1, 1) := by decide +kernel
theorem dX10_goes_24 : decode cX10_goes 24 = .ok (.iadd, 1) := by decide +kernel
theorem dX10_goes_25 : decode cX10_goes 25 = .ok (.iaload, 1) := by decide +kernel
theorem dX10_goes_26 : decode cX10_goes 26 = .ok (.iload_n 2, 1) := by decide +kernel
theorem dX10_goes_27 : decode cX10_goes 27 = .ok (.if_icmp .ne 52, 3) := by decide +kernel
theorem dX10_goes_30 : decode cX10_goes 30 = .ok (.iload 6, 2) := by decide +kernel
theorem dX10_goes_32 : decode cX10_goes 32 = .ok (.aload_n 0, 1) := by decide +kernel
theorem dX10_goes_33 : decode cX10_goes 33 = .ok (.getfield 25, 3) := by decide +kernel
theorem dX10_goes_36 : decode cX10_goes 36 = .ok (.iload_n 1, 1) := by decide +kernel
theorem dX10_goes_37 : decode cX10_goes 37 = .ok (.iaload, 1) := by decide +kernel
theorem dX10_goes_38 : decode cX10_goes 38 = .ok (.iload 7, 2) := by decide +kernel
theorem dX10_goes_40 : decode cX10_goes 40 = .ok (.ishr, 1) := by decide +kernel
theorem dX10_goes_41 : decode cX10_goes 41 = .ok (.iconst 1, 1) := by decide +kernel
theorem dX10_goes_42 : decode cX10_goes 42 = .ok (.iand, 1) := by decide +kernel
theorem dX10_goes_43 : decode cX10_goes 43 = .ok (.iconst 1, 1) := by decide +kernel
theorem dX10_goes_44 : decode cX10_goes 44 = .ok (.if_icmp .ne 25, 3) := by decide +kernel
theorem dX10_goes_47 : decode cX10_goes 47 = .ok (.aload_n 0, 1) := by decide +kernel
theorem dX10_goes_48 : decode cX10_goes 48 = .ok (.iload_n 1, 1) := by decide +kernel
theorem dX10_goes_49 : decode cX10_goes 49 = .ok (.iload 7, 2) := by decide +kernel
theorem dX10_goes_51 : decode cX10_goes 51 = .ok (.iload_n 3, 1) := by decide +kernel
theorem dX10_goes_52 : decode cX10_goes 52 = .ok (.iload 4, 2) := by decide +kernel
theorem dX10_goes_54 : decode cX10_goes 54 = .ok (.iload 5, 2) := by decide +kernel
theorem dX10_goes_56 : decode cX10_goes 56 = .ok (.invokevirtual 144, 3) := by decide +kernel
theorem dX10_goes_59 : decode cX10_goes 59 = .ok (.ifCond .eq 10, 3) := by decide +kernel
theorem dX10_goes_62 : decode cX10_goes 62 = .ok (.iconst 1, 1) := by decide +kernel
theorem dX10_goes_63 : decode cX10_goes 63 = .ok (.iload 7, 2) := by decide +kernel
theorem dX10_goes_65 : decode cX10_goes 65 = .ok (.ishl, 1) := by decide +kernel
theorem dX10_goes_66 : decode cX10_goes 66 = .ok (.goto 4, 3) := by decide +kernel
theorem dX10_goes_69 : decode cX10_goes 69 = .ok (.iconst 0, 1) := by decide +kernel
theorem dX10_goes_70 : decode cX10_goes 70 = .ok (.ior, 1) := by decide +kernel
theorem dX10_goes_71 : decode cX10_goes 71 = .ok (.istore 6, 2) := by decide +kernel
theorem dX10_goes_73 : decode cX10_goes 73 = .ok (.iinc 7 1, 3) := by decide +kernel
theorem dX10_goes_76 : decode cX10_goes 76 = .ok (.goto (-70), 3) := by decide +kernel
theorem dX10_goes_79 : decode cX10_goes 79 = .ok (.iload 6, 2) := by decide +kernel
theorem dX10_goes_81 : decode cX10_goes 81 = .ok (.ireturn, 1) := by decide +kernel
theorem dX10_goesNow_0 : decode cX10_goesNow 0 = .ok (.aload_n 0, 1) := by decide +kernel
theorem dX10_goesNow_1 : decode cX10_goesNow 1 = .ok (.iload_n 1, 1) := by decide +kernel
theorem dX10_goesNow_2 : decode cX10_goesNow 2 = .ok (.aload_n 0, 1) := by decide +kernel
theorem dX10_goesNow_3 : decode cX10_goesNow 3 = .ok (.getfield 22, 3) := by decide +kernel
theorem dX10_goesNow_6 : decode cX10_goesNow 6 = .ok (.iconst 1, 1) := by decide +kernel
theorem dX10_goesNow_7 : decode cX10_goesNow 7 = .ok (.iaload, 1) := by decide +kernel
theorem dX10_goesNow_8 : decode cX10_goesNow 8 = .ok (.aload_n 0, 1) := by decide +kernel
theorem dX10_goesNow_9 : decode cX10_goesNow 9 = .ok (.getfield 22, 3) := by decide +kernel
theorem dX10_goesNow_12 : decode cX10_goesNow 12 = .ok (.iconst 3, 1) := by decide +kernel
theorem dX10_goesNow_13 : decode cX10_goesNow 13 = .ok (.iaload, 1) := by decide +kernel
theorem dX10_goesNow_14 : decode cX10_goesNow 14 = .ok (.aload_n 0, 1) := by decide +kernel
theorem dX10_goesNow_15 : decode cX10_goesNow 15 = .ok (.getfield 22, 3) := by decide +kernel
theorem dX10_goesNow_18 : decode cX10_goesNow 18 = .ok (.iconst 4, 1) := by decide +kernel
theorem dX10_goesNow_19 : decode cX10_goesNow 19 = .ok (.iaload, 1) := by decide +kernel
theorem dX10_goesNow_20 : decode cX10_goesNow 20 = .ok (.aload_n 0, 1) := by decide +kernel
theorem dX10_goesNow_21 : decode cX10_goesNow 21 = .ok (.getfield 22, 3) := by decide +kernel
theorem dX10_goesNow_24 : decode cX10_goesNow 24 = .ok (.iconst 5, 1) := by decide +kernel
theorem dX10_goesNow_25 : decode cX10_goesNow 25 = .ok (.iaload, 1) := by decide +kernel
theorem dX10_goesNow_26 : decode cX10_goesNow 26 = .ok (.invokevirtual 147, 3) := by decide +kernel
theorem dX10_goesNow_29 : decode cX10_goesNow 29 = .ok (.ireturn, 1) := by decide +kernel
theorem dX10_lets_0 : decode cX10_lets 0 = .ok (.aload_n 0, 1) := by decide +kernel
theorem dX10_lets_1 : decode cX10_lets 1 = .ok (.iload_n 1, 1) := by decide +kernel
theorem dX10_lets_2 : decode cX10_lets 2 = .ok (.invokevirtual 109, 3) := by decide +kernel
theorem dX10_lets_5 : decode cX10_lets 5 = .ok (.ifCond .ne 5, 3) := by decide +kernel
theorem dX10_lets_8 : decode cX10_lets 8 = .ok (.iconst (-1), 1) := by decide +kernel
theorem dX10_lets_9 : decode cX10_lets 9 = .ok (.ireturn, 1) := by decide +kernel
theorem dX10_lets_10 : decode cX10_lets 10 = .ok (.aload_n 0, 1) := by decide +kernel
theorem dX10_lets_11 : decode cX10_lets 11 = .ok (.getfield 16, 3) := by decide +kernel
theorem dX10_lets_14 : decode cX10_lets 14 = .ok (.bipush 8, 2) := by decide +kernel
theorem dX10_lets_16 : decode cX10_lets 16 = .ok (.iload_n 1, 1) := by decide +kernel
theorem dX10_lets_17 : decode cX10_lets 17 = .ok (.imul, 1) := by decide +kernel
theorem dX10_lets_18 : decode cX10_lets 18 = .ok (.iconst 1, 1) := by decide +kernel
theorem dX10_lets_19 : decode cX10_lets 19 = .ok (.iadd, 1) := by decide +kernel
theorem dX10_lets_20 : decode cX10_lets 20 = .ok (.iaload, 1) := by decide +kernel
theorem dX10_lets_21 : decode cX10_lets 21 = .ok (.aload_n 0, 1) := by decide +kernel
theorem dX10_lets_22 : decode cX10_lets 22 = .ok (.getfield 22, 3) := by decide +kernel
theorem dX10_lets_25 : decode cX10_lets 25 = .ok (.iconst 1, 1) := by decide +kernel
theorem dX10_lets_26 : decode cX10_lets 26 = .ok (.iaload, 1) := by decide +kernel
theorem dX10_lets_27 : decode cX10_lets 27 = .ok (.if_icmp .eq 6, 3) := by decide +kernel
theorem dX10_lets_30 : decode cX10_lets 30 = .ok (.bipush (-2), 2) := by decide +kernel
theorem dX10_lets_32 : decode cX10_lets 32 = .ok (.ireturn, 1) := by decide +kernel
theorem dX10_lets_33 : decode cX10_lets 33 = .ok (.aload_n 0, 1) := by decide +kernel
theorem dX10_lets_34 : decode cX10_lets 34 = .ok (.invokevirtual 151, 3) := by decide +kernel
theorem dX10_lets_37 : decode cX10_lets 37 = .ok (.aload_n 0, 1) := by decide +kernel
theorem dX10_lets_38 : decode cX10_lets 38 = .ok (.iload_n 1, 1) := by decide +kernel
theorem dX10_lets_39 : decode cX10_lets 39 = .ok (.invokevirtual 154, 3) := by decide +kernel
theorem dX10_lets_42 : decode cX10_lets 42 = .ok (.ireturn, 1) := by decide +kernel
theorem dX10_send_0 : decode cX10_send 0 = .ok (.aload_n 0, 1) := by decide +kernel
theorem dX10_send_1 : decode cX10_send 1 = .ok (.iload_n 1, 1) := by decide +kernel
theorem dX10_send_2 : decode cX10_send 2 = .ok (.invokevirtual 158, 3) := by decide +kernel
theorem dX10_send_5 : decode cX10_send 5 = .ok (.istore_n 2, 1) := by decide +kernel
theorem dX10_send_6 : decode cX10_send 6 = .ok (.iload_n 2, 1) := by decide +kernel
theorem dX10_send_7 : decode cX10_send 7 = .ok (.ifCond .ge 5, 3) := by decide +kernel
theorem dX10_send_10 : decode cX10_send 10 = .ok (.iload_n 2, 1) := by decide +kernel
theorem dX10_send_11 : decode cX10_send 11 = .ok (.ireturn, 1) := by decide +kernel
theorem dX10_send_12 : decode cX10_send 12 = .ok (.iload_n 2, 1) := by decide +kernel
theorem dX10_send_13 : decode cX10_send 13 = .ok (.ifCond .ne 6, 3) := by decide +kernel
theorem dX10_send_16 : decode cX10_send 16 = .ok (.bipush (-4), 2) := by decide +kernel
theorem dX10_send_18 : decode cX10_send 18 = .ok (.ireturn, 1) := by decide +kernel
theorem dX10_send_19 : decode cX10_send 19 = .ok (.aload_n 0, 1) := by decide +kernel
theorem dX10_send_20 : decode cX10_send 20 = .ok (.getfield 16, 3) := by decide +kernel
theorem dX10_send_23 : decode cX10_send 23 = .ok (.bipush 8, 2) := by decide +kernel
theorem dX10_send_25 : decode cX10_send 25 = .ok (.iload_n 1, 1) := by decide +kernel
theorem dX10_send_26 : decode cX10_send 26 = .ok (.imul, 1) := by decide +kernel
theorem dX10_send_27 : decode cX10_send 27 = .ok (.bipush 7, 2) := by decide +kernel
theorem dX10_send_29 : decode cX10_send 29 = .ok (.iadd, 1) := by decide +kernel
theorem dX10_send_30 : decode cX10_send 30 = .ok (.iaload, 1) := by decide +kernel
theorem dX10_send_31 : decode cX10_send 31 = .ok (.istore_n 3, 1) := by decide +kernel
theorem dX10_send_32 : decode cX10_send 32 = .ok (.aload_n 0, 1) := by decide +kernel
theorem dX10_send_33 : decode cX10_send 33 = .ok (.getfield 22, 3) := by decide +kernel
theorem dX10_send_36 : decode cX10_send 36 = .ok (.iconst 1, 1) := by decide +kernel
theorem dX10_send_37 : decode cX10_send 37 = .ok (.aload_n 0, 1) := by decide +kernel
theorem dX10_send_38 : decode cX10_send 38 = .ok (.getfield 16, 3) := by decide +kernel
theorem dX10_send_41 : decode cX10_send 41 = .ok (.bipush 8, 2) := by decide +kernel
theorem dX10_send_43 : decode cX10_send 43 = .ok (.iload_n 1, 1) := by decide +kernel
theorem dX10_send_44 : decode cX10_send 44 = .ok (.imul, 1) := by decide +kernel
theorem dX10_send_45 : decode cX10_send 45 = .ok (.iconst 2, 1) := by decide +kernel
theorem dX10_send_46 : decode cX10_send 46 = .ok (.iadd, 1) := by decide +kernel
theorem dX10_send_47 : decode cX10_send 47 = .ok (.iaload, 1) := by decide +kernel
theorem dX10_send_48 : decode cX10_send 48 = .ok (.iastore, 1) := by decide +kernel
theorem dX10_send_49 : decode cX10_send 49 = .ok (.aload_n 0, 1) := by decide +kernel
theorem dX10_send_50 : decode cX10_send 50 = .ok (.getfield 22, 3) := by decide +kernel
theorem dX10_send_53 : decode cX10_send 53 = .ok (.iconst 3, 1) := by decide +kernel
theorem dX10_send_54 : decode cX10_send 54 = .ok (.iload_n 3, 1) := by decide +kernel
theorem dX10_send_55 : decode cX10_send 55 = .ok (.iconst 1, 1) := by decide +kernel
theorem dX10_send_56 : decode cX10_send 56 = .ok (.iand, 1) := by decide +kernel
theorem dX10_send_57 : decode cX10_send 57 = .ok (.iastore, 1) := by decide +kernel
theorem dX10_send_58 : decode cX10_send 58 = .ok (.aload_n 0, 1) := by decide +kernel
theorem dX10_send_59 : decode cX10_send 59 = .ok (.getfield 22, 3) := by decide +kernel
theorem dX10_send_62 : decode cX10_send 62 = .ok (.iconst 4, 1) := by decide +kernel
theorem dX10_send_63 : decode cX10_send 63 = .ok (.iload_n 3, 1) := by decide +kernel
theorem dX10_send_64 : decode cX10_send 64 = .ok (.iconst 4, 1) := by decide +kernel
theorem dX10_send_65 : decode cX10_send 65 = .ok (.iand, 1) := by decide +kernel
theorem dX10_send_66 : decode cX10_send 66 = .ok (.ifCond .eq 17, 3) := by decide +kernel
theorem dX10_send_69 : decode cX10_send 69 = .ok (.aload_n 0, 1) := by decide +kernel
theorem dX10_send_70 : decode cX10_send 70 = .ok (.getfield 16, 3) := by decide +kernel
theorem dX10_send_73 : decode cX10_send 73 = .ok (.bipush 8, 2) := by decide +kernel
theorem dX10_send_75 : decode cX10_send 75 = .ok (.iload_n 1, 1) := by decide +kernel
theorem dX10_send_76 : decode cX10_send 76 = .ok (.imul, 1) := by decide +kernel
theorem dX10_send_77 : decode cX10_send 77 = .ok (.iconst 1, 1) := by decide +kernel
theorem dX10_send_78 : decode cX10_send 78 = .ok (.iadd, 1) := by decide +kernel
theorem dX10_send_79 : decode cX10_send 79 = .ok (.iaload, 1) := by decide +kernel
theorem dX10_send_80 : decode cX10_send 80 = .ok (.goto 5, 3) := by decide +kernel
theorem dX10_send_83 : decode cX10_send 83 = .ok (.bipush (-4), 2) := by decide +kernel
theorem dX10_send_85 : decode cX10_send 85 = .ok (.iastore, 1) := by decide +kernel
theorem dX10_send_86 : decode cX10_send 86 = .ok (.aload_n 0, 1) := by decide +kernel
theorem dX10_send_87 : decode cX10_send 87 = .ok (.getfield 22, 3) := by decide +kernel
theorem dX10_send_90 : decode cX10_send 90 = .ok (.iconst 5, 1) := by decide +kernel
theorem dX10_send_91 : decode cX10_send 91 = .ok (.iload_n 3, 1) := by decide +kernel
theorem dX10_send_92 : decode cX10_send 92 = .ok (.iconst 2, 1) := by decide +kernel
theorem dX10_send_93 : decode cX10_send 93 = .ok (.iand, 1) := by decide +kernel
theorem dX10_send_94 : decode cX10_send 94 = .ok (.ifCond .eq 7, 3) := by decide +kernel
theorem dX10_send_97 : decode cX10_send 97 = .ok (.iload_n 2, 1) := by decide +kernel
theorem dX10_send_98 : decode cX10_send 98 = .ok (.goto 6, 3) := by decide +kernel
theorem dX10_send_101 : decode cX10_send 101 = .ok (.sipush 255, 3) := by decide +kernel
theorem dX10_send_104 : decode cX10_send 104 = .ok (.iastore, 1) := by decide +kernel
theorem dX10_send_105 : decode cX10_send 105 = .ok (.aload_n 0, 1) := by decide +kernel
theorem dX10_send_106 : decode cX10_send 106 = .ok (.getfield 22, 3) := by decide +kernel
theorem dX10_send_109 : decode cX10_send 109 = .ok (.bipush 6, 2) := by decide +kernel
theorem dX10_send_111 : decode cX10_send 111 = .ok (.dup2, 1) := by decide +kernel
theorem dX10_send_112 : decode cX10_send 112 = .ok (.iaload, 1) := by decide +kernel
theorem dX10_send_113 : decode cX10_send 113 = .ok (.iconst 1, 1) := by decide +kernel
theorem dX10_send_114 : decode cX10_send 114 = .ok (.iadd, 1) := by decide +kernel
theorem dX10_send_115 : decode cX10_send 115 = .ok (.iastore, 1) := by decide +kernel
theorem dX10_send_116 : decode cX10_send 116 = .ok (.iload_n 2, 1) := by decide +kernel
theorem dX10_send_117 : decode cX10_send 117 = .ok (.ireturn, 1) := by decide +kernel
theorem dX10_isTried_0 : decode cX10_isTried 0 = .ok (.aload_n 0, 1) := by decide +kernel
theorem dX10_isTried_1 : decode cX10_isTried 1 = .ok (.aload_n 0, 1) := by decide +kernel
theorem dX10_isTried_2 : decode cX10_isTried 2 = .ok (.getfield 13, 3) := by decide +kernel
theorem dX10_isTried_5 : decode cX10_isTried 5 = .ok (.iconst 5, 1) := by decide +kernel
theorem dX10_isTried_6 : decode cX10_isTried 6 = .ok (.iload_n 1, 1) := by decide +kernel
theorem dX10_isTried_7 : decode cX10_isTried 7 = .ok (.imul, 1) := by decide +kernel
theorem dX10_isTried_8 : decode cX10_isTried 8 = .ok (.iaload, 1) := by decide +kernel
theorem dX10_isTried_9 : decode cX10_isTried 9 = .ok (.iload_n 2, 1) := by decide +kernel
theorem dX10_isTried_10 : decode cX10_isTried 10 = .ok (.invokevirtual 116, 3) := by decide +kernel
theorem dX10_isTried_13 : decode cX10_isTried 13 = .ok (.ifCond .eq 29, 3) := by decide +kernel
theorem dX10_isTried_16 : decode cX10_isTried 16 = .ok (.aload_n 0, 1) := by decide +kernel
theorem dX10_isTried_17 : decode cX10_isTried 17 = .ok (.getfield 13, 3) := by decide +kernel
theorem dX10_isTried_20 : decode cX10_isTried 20 = .ok (.iconst 5, 1) := by decide +kernel
theorem dX10_isTried_21 : decode cX10_isTried 21 = .ok (.iload_n 1, 1) := by decide +kernel
theorem dX10_isTried_22 : decode cX10_isTried 22 = .ok (.imul, 1) := by decide +kernel
theorem dX10_isTried_23 : decode cX10_isTried 23 = .ok (.iconst 4, 1) := by decide +kernel
theorem dX10_isTried_24 : decode cX10_isTried 24 = .ok (.iadd, 1) := by decide +kernel
theorem dX10_isTried_25 : decode cX10_isTried 25 = .ok (.iaload, 1) := by decide +kernel
theorem dX10_isTried_26 : decode cX10_isTried 26 = .ok (.ifCond .ne 16, 3) := by decide +kernel
theorem dX10_isTried_29 : decode cX10_isTried 29 = .ok (.iload_n 3, 1) := by decide +kernel
theorem dX10_isTried_30 : decode cX10_isTried 30 = .ok (.iload_n 1, 1) := by decide +kernel
theorem dX10_isTried_31 : decode cX10_isTried 31 = .ok (.ishr, 1) := by decide +kernel
theorem dX10_isTried_32 : decode cX10_isTried 32 = .ok (.iconst 1, 1) := by decide +kernel
theorem dX10_isTried_33 : decode cX10_isTried 33 = .ok (.iand, 1) := by decide +kernel
theorem dX10_isTried_34 : decode cX10_isTried 34 = .ok (.iconst 1, 1) := by decide +kernel
theorem dX10_isTried_35 : decode cX10_isTried 35 = .ok (.if_icmp .ne 7, 3) := by decide +kernel
theorem dX10_isTried_38 : decode cX10_isTried 38 = .ok (.iconst 1, 1) := by decide +kernel
theorem dX10_isTried_39 : decode cX10_isTried 39 = .ok (.goto 4, 3) := by decide +kernel
theorem dX10_isTried_42 : decode cX10_isTried 42 = .ok (.iconst 0, 1) := by decide +kernel
theorem dX10_isTried_43 : decode cX10_isTried 43 = .ok (.ireturn, 1) := by decide +kernel
theorem dX10_triedAt_0 : decode cX10_triedAt 0 = .ok (.iconst 0, 1) := by decide +kernel
theorem dX10_triedAt_1 : decode cX10_triedAt 1 = .ok (.istore_n 3, 1) := by decide +kernel
theorem dX10_triedAt_2 : decode cX10_triedAt 2 = .ok (.iconst 0, 1) := by decide +kernel
theorem dX10_triedAt_3 : decode cX10_triedAt 3 = .ok (.istore 4, 2) := by decide +kernel
theorem dX10_triedAt_5 : decode cX10_triedAt 5 = .ok (.iload 4, 2) := by decide +kernel
theorem dX10_triedAt_7 : decode cX10_triedAt 7 = .ok (.aload_n 0, 1) := by decide +kernel
theorem dX10_triedAt_8 : decode cX10_triedAt 8 = .ok (.getfield 73, 3) := by decide +kernel
theorem dX10_triedAt_11 : decode cX10_triedAt 11 = .ok (.if_icmp .ge 31, 3) := by decide +kernel
theorem dX10_triedAt_14 : decode cX10_triedAt 14 = .ok (.iload_n 3, 1) := by decide +kernel
theorem dX10_triedAt_15 : decode cX10_triedAt 15 = .ok (.aload_n 0, 1) := by decide +kernel
theorem dX10_triedAt_16 : decode cX10_triedAt 16 = .ok (.iload 4, 2) := by decide +kernel
theorem dX10_triedAt_18 : decode cX10_triedAt 18 = .ok (.iload_n 1, 1) := by decide +kernel
theorem dX10_triedAt_19 : decode cX10_triedAt 19 = .ok (.iload_n 2, 1) := by decide +kernel
theorem dX10_triedAt_20 : decode cX10_triedAt 20 = .ok (.invokevirtual 161, 3) := by decide +kernel
theorem dX10_triedAt_23 : decode cX10_triedAt 23 = .ok (.ifCond .eq 10, 3) := by decide +kernel
theorem dX10_triedAt_26 : decode cX10_triedAt 26 = .ok (.iconst 1, 1) := by decide +kernel
theorem dX10_triedAt_27 : decode cX10_triedAt 27 = .ok (.iload 4, 2) := by decide +kernel
theorem dX10_triedAt_29 : decode cX10_triedAt 29 = .ok (.ishl, 1) := by decide +kernel
theorem dX10_triedAt_30 : decode cX10_triedAt 30 = .ok (.goto 4, 3) := by decide +kernel
theorem dX10_triedAt_33 : decode cX10_triedAt 33 = .ok (.iconst 0, 1) := by decide +kernel
theorem dX10_triedAt_34 : decode cX10_triedAt 34 = .ok (.ior, 1) := by decide +kernel
theorem dX10_triedAt_35 : decode cX10_triedAt 35 = .ok (.istore_n 3, 1) := by decide +kernel
theorem dX10_triedAt_36 : decode cX10_triedAt 36 = .ok (.iinc 4 1, 3) := by decide +kernel
theorem dX10_triedAt_39 : decode cX10_triedAt 39 = .ok (.goto (-34), 3) := by decide +kernel
theorem dX10_triedAt_42 : decode cX10_triedAt 42 = .ok (.iload_n 3, 1) := by decide +kernel
theorem dX10_triedAt_43 : decode cX10_triedAt 43 = .ok (.ireturn, 1) := by decide +kernel
theorem dX10_tried_0 : decode cX10_tried 0 = .ok (.aload_n 0, 1) := by decide +kernel
theorem dX10_tried_1 : decode cX10_tried 1 = .ok (.aload_n 0, 1) := by decide +kernel
theorem dX10_tried_2 : decode cX10_tried 2 = .ok (.getfield 22, 3) := by decide +kernel
theorem dX10_tried_5 : decode cX10_tried 5 = .ok (.iconst 1, 1) := by decide +kernel
theorem dX10_tried_6 : decode cX10_tried 6 = .ok (.iaload, 1) := by decide +kernel
theorem dX10_tried_7 : decode cX10_tried 7 = .ok (.aload_n 0, 1) := by decide +kernel
theorem dX10_tried_8 : decode cX10_tried 8 = .ok (.getfield 22, 3) := by decide +kernel
theorem dX10_tried_11 : decode cX10_tried 11 = .ok (.iconst 5, 1) := by decide +kernel
theorem dX10_tried_12 : decode cX10_tried 12 = .ok (.iaload, 1) := by decide +kernel
theorem dX10_tried_13 : decode cX10_tried 13 = .ok (.invokevirtual 165, 3) := by decide +kernel
theorem dX10_tried_16 : decode cX10_tried 16 = .ok (.ireturn, 1) := by decide +kernel
theorem dX10_come_0 : decode cX10_come 0 = .ok (.aload_n 0, 1) := by decide +kernel
theorem dX10_come_1 : decode cX10_come 1 = .ok (.getfield 28, 3) := by decide +kernel
theorem dX10_come_4 : decode cX10_come 4 = .ok (.iload_n 1, 1) := by decide +kernel
theorem dX10_come_5 : decode cX10_come 5 = .ok (.iaload, 1) := by decide +kernel
theorem dX10_come_6 : decode cX10_come 6 = .ok (.bipush (-4), 2) := by decide +kernel
theorem dX10_come_8 : decode cX10_come 8 = .ok (.if_icmp .ne 37, 3) := by decide +kernel
theorem dX10_come_11 : decode cX10_come 11 = .ok (.aload_n 0, 1) := by decide +kernel
theorem dX10_come_12 : decode cX10_come 12 = .ok (.getfield 28, 3) := by decide +kernel
theorem dX10_come_15 : decode cX10_come 15 = .ok (.iload_n 1, 1) := by decide +kernel
theorem dX10_come_16 : decode cX10_come 16 = .ok (.iload_n 2, 1) := by decide +kernel
theorem dX10_come_17 : decode cX10_come 17 = .ok (.iastore, 1) := by decide +kernel
theorem dX10_come_18 : decode cX10_come 18 = .ok (.aload_n 0, 1) := by decide +kernel
theorem dX10_come_19 : decode cX10_come 19 = .ok (.getfield 31, 3) := by decide +kernel
theorem dX10_come_22 : decode cX10_come 22 = .ok (.iload_n 1, 1) := by decide +kernel
theorem dX10_come_23 : decode cX10_come 23 = .ok (.iload_n 3, 1) := by decide +kernel
theorem dX10_come_24 : decode cX10_come 24 = .ok (.iastore, 1) := by decide +kernel
theorem dX10_come_25 : decode cX10_come 25 = .ok (.aload_n 0, 1) := by decide +kernel
theorem dX10_come_26 : decode cX10_come 26 = .ok (.getfield 34, 3) := by decide +kernel
theorem dX10_come_29 : decode cX10_come 29 = .ok (.aload_n 0, 1) := by decide +kernel
theorem dX10_come_30 : decode cX10_come 30 = .ok (.getfield 168, 3) := by decide +kernel
theorem dX10_come_33 : decode cX10_come 33 = .ok (.iload_n 1, 1) := by decide +kernel
theorem dX10_come_34 : decode cX10_come 34 = .ok (.iastore, 1) := by decide +kernel
theorem dX10_come_35 : decode cX10_come 35 = .ok (.aload_n 0, 1) := by decide +kernel
theorem dX10_come_36 : decode cX10_come 36 = .ok (.dup, 1) := by decide +kernel
theorem dX10_come_37 : decode cX10_come 37 = .ok (.getfield 168, 3) := by decide +kernel
theorem dX10_come_40 : decode cX10_come 40 = .ok (.iconst 1, 1) := by decide +kernel
theorem dX10_come_41 : decode cX10_come 41 = .ok (.iadd, 1) := by decide +kernel
theorem dX10_come_42 : decode cX10_come 42 = .ok (.putfield 168, 3) := by decide +kernel
theorem dX10_come_45 : decode cX10_come 45 = .ok (.return_, 1) := by decide +kernel
theorem dX10_codeOf_0 : decode cX10_codeOf 0 = .ok (.iconst 2, 1) := by decide +kernel
theorem dX10_codeOf_1 : decode cX10_codeOf 1 = .ok (.iload_n 1, 1) := by decide +kernel
theorem dX10_codeOf_2 : decode cX10_codeOf 2 = .ok (.imul, 1) := by decide +kernel
theorem dX10_codeOf_3 : decode cX10_codeOf 3 = .ok (.iload_n 2, 1) := by decide +kernel
theorem dX10_codeOf_4 : decode cX10_codeOf 4 = .ok (.iadd, 1) := by decide +kernel
theorem dX10_codeOf_5 : decode cX10_codeOf 5 = .ok (.bipush 7, 2) := by decide +kernel
theorem dX10_codeOf_7 : decode cX10_codeOf 7 = .ok (.imul, 1) := by decide +kernel
theorem dX10_codeOf_8 : decode cX10_codeOf 8 = .ok (.iload_n 3, 1) := by decide +kernel
theorem dX10_codeOf_9 : decode cX10_codeOf 9 = .ok (.ifCond .ge 7, 3) := by decide +kernel
theorem dX10_codeOf_12 : decode cX10_codeOf 12 = .ok (.iconst 0, 1) := by decide +kernel
theorem dX10_codeOf_13 : decode cX10_codeOf 13 = .ok (.goto 6, 3) := by decide +kernel
theorem dX10_codeOf_16 : decode cX10_codeOf 16 = .ok (.iload_n 3, 1) := by decide +kernel
theorem dX10_codeOf_17 : decode cX10_codeOf 17 = .ok (.iconst 1, 1) := by decide +kernel
theorem dX10_codeOf_18 : decode cX10_codeOf 18 = .ok (.iadd, 1) := by decide +kernel
theorem dX10_codeOf_19 : decode cX10_codeOf 19 = .ok (.iadd, 1) := by decide +kernel
theorem dX10_codeOf_20 : decode cX10_codeOf 20 = .ok (.sipush 256, 3) := by decide +kernel
theorem dX10_codeOf_23 : decode cX10_codeOf 23 = .ok (.imul, 1) := by decide +kernel
theorem dX10_codeOf_24 : decode cX10_codeOf 24 = .ok (.iload 4, 2) := by decide +kernel
theorem dX10_codeOf_26 : decode cX10_codeOf 26 = .ok (.aload_n 0, 1) := by decide +kernel
theorem dX10_codeOf_27 : decode cX10_codeOf 27 = .ok (.invokevirtual 131, 3) := by decide +kernel
theorem dX10_codeOf_30 : decode cX10_codeOf 30 = .ok (.iand, 1) := by decide +kernel
theorem dX10_codeOf_31 : decode cX10_codeOf 31 = .ok (.iadd, 1) := by decide +kernel
theorem dX10_codeOf_32 : decode cX10_codeOf 32 = .ok (.ireturn, 1) := by decide +kernel
theorem dX10_findStates_0 : decode cX10_findStates 0 = .ok (.aload_n 0, 1) := by decide +kernel
theorem dX10_findStates_1 : decode cX10_findStates 1 = .ok (.invokevirtual 151, 3) := by decide +kernel
theorem dX10_findStates_4 : decode cX10_findStates 4 = .ok (.iconst 0, 1) := by decide +kernel
theorem dX10_findStates_5 : decode cX10_findStates 5 = .ok (.istore_n 1, 1) := by decide +kernel
theorem dX10_findStates_6 : decode cX10_findStates 6 = .ok (.iload_n 1, 1) := by decide +kernel
theorem dX10_findStates_7 : decode cX10_findStates 7 = .ok (.sipush 21504, 3) := by decide +kernel
theorem dX10_findStates_10 : decode cX10_findStates 10 = .ok (.if_icmp .ge 17, 3) := by decide +kernel
theorem dX10_findStates_13 : decode cX10_findStates 13 = .ok (.aload_n 0, 1) := by decide +kernel
theorem dX10_findStates_14 : decode cX10_findStates 14 = .ok (.getfield 28, 3) := by decide +kernel
theorem dX10_findStates_17 : decode cX10_findStates 17 = .ok (.iload_n 1, 1) := by decide +kernel
theorem dX10_findStates_18 : decode cX10_findStates 18 = .ok (.bipush (-4), 2) := by decide +kernel
theorem dX10_findStates_20 : decode cX10_findStates 20 = .ok (.iastore, 1) := by decide +kernel
theorem dX10_findStates_21 : decode cX10_findStates 21 = .ok (.iinc 1 1, 3) := by decide +kernel
theorem dX10_findStates_24 : decode cX10_findStates 24 = .ok (.goto (-18), 3) := by decide +kernel
theorem dX10_findStates_27 : decode cX10_findStates 27 = .ok (.aload_n 0, 1) := by decide +kernel
theorem dX10_findStates_28 : decode cX10_findStates 28 = .ok (.iconst 0, 1) := by decide +kernel
theorem dX10_findStates_29 : decode cX10_findStates 29 = .ok (.putfield 168, 3) := by decide +kernel
theorem dX10_findStates_32 : decode cX10_findStates 32 = .ok (.aload_n 0, 1) := by decide +kernel
theorem dX10_findStates_33 : decode cX10_findStates 33 = .ok (.aload_n 0, 1) := by decide +kernel
theorem dX10_findStates_34 : decode cX10_findStates 34 = .ok (.getfield 22, 3) := by decide +kernel
theorem dX10_findStates_37 : decode cX10_findStates 37 = .ok (.iconst 1, 1) := by decide +kernel
theorem dX10_findStates_38 : decode cX10_findStates 38 = .ok (.iaload, 1) := by decide +kernel
theorem dX10_findStates_39 : decode cX10_findStates 39 = .ok (.aload_n 0, 1) := by decide +kernel
theorem dX10_findStates_40 : decode cX10_findStates 40 = .ok (.getfield 22, 3) := by decide +kernel
theorem dX10_findStates_43 : decode cX10_findStates 43 = .ok (.iconst 3, 1) := by decide +kernel
theorem dX10_findStates_44 : decode cX10_findStates 44 = .ok (.iaload, 1) := by decide +kernel
theorem dX10_findStates_45 : decode cX10_findStates 45 = .ok (.aload_n 0, 1) := by decide +kernel
theorem dX10_findStates_46 : decode cX10_findStates 46 = .ok (.getfield 22, 3) := by decide +kernel
theorem dX10_findStates_49 : decode cX10_findStates 49 = .ok (.iconst 4, 1) := by decide +kernel
theorem dX10_findStates_50 : decode cX10_findStates 50 = .ok (.iaload, 1) := by decide +kernel
theorem dX10_findStates_51 : decode cX10_findStates 51 = .ok (.aload_n 0, 1) := by decide +kernel
theorem dX10_findStates_52 : decode cX10_findStates 52 = .ok (.getfield 22, 3) := by decide +kernel
theorem dX10_findStates_55 : decode cX10_findStates 55 = .ok (.iconst 5, 1) := by decide +kernel
theorem dX10_findStates_56 : decode cX10_findStates 56 = .ok (.iaload, 1) := by decide +kernel
theorem dX10_findStates_57 : decode cX10_findStates 57 = .ok (.invokevirtual 171, 3) := by decide +kernel
theorem dX10_findStates_60 : decode cX10_findStates 60 = .ok (.istore_n 1, 1) := by decide +kernel
theorem dX10_findStates_61 : decode cX10_findStates 61 = .ok (.aload_n 0, 1) := by decide +kernel
theorem dX10_findStates_62 : decode cX10_findStates 62 = .ok (.iload_n 1, 1) := by decide +kernel
theorem dX10_findStates_63 : decode cX10_findStates 63 = .ok (.iload_n 1, 1) := by decide +kernel
theorem dX10_findStates_64 : decode cX10_findStates 64 = .ok (.bipush (-4), 2) := by decide +kernel
theorem dX10_findStates_66 : decode cX10_findStates 66 = .ok (.invokevirtual 175, 3) := by decide +kernel
theorem dX10_findStates_69 : decode cX10_findStates 69 = .ok (.iconst 0, 1) := by decide +kernel
theorem dX10_findStates_70 : decode cX10_findStates 70 = .ok (.istore_n 2, 1) := by decide +kernel
theorem dX10_findStates_71 : decode cX10_findStates 71 = .ok (.iload_n 2, 1) := by decide +kernel
theorem dX10_findStates_72 : decode cX10_findStates 72 = .ok (.aload_n 0, 1) := by decide +kernel
theorem dX10_findStates_73 : decode cX10_findStates 73 = .ok (.getfield 168, 3) := by decide +kernel
theorem dX10_findStates_76 : decode cX10_findStates 76 = .ok (.if_icmp .ge 161, 3) := by decide +kernel
theorem dX10_findStates_79 : decode cX10_findStates 79 = .ok (.aload_n 0, 1) := by decide +kernel
theorem dX10_findStates_80 : decode cX10_findStates 80 = .ok (.getfield 34, 3) := by decide +kernel
theorem dX10_findStates_83 : decode cX10_findStates 83 = .ok (.iload_n 2, 1) := by decide +kernel
theorem dX10_findStates_84 : decode cX10_findStates 84 = .ok (.iaload, 1) := by decide +kernel
theorem dX10_findStates_85 : decode cX10_findStates 85 = .ok (.istore_n 3, 1) := by decide +kernel
theorem dX10_findStates_86 : decode cX10_findStates 86 = .ok (.iload_n 3, 1) := by decide +kernel
theorem dX10_findStates_87 : decode cX10_findStates 87 = .ok (.sipush 256, 3) := by decide +kernel
theorem dX10_findStates_90 : decode cX10_findStates 90 = .ok (.irem, 1) := by decide +kernel
theorem dX10_findStates_91 : decode cX10_findStates 91 = .ok (.istore 4, 2) := by decide +kernel
theorem dX10_findStates_93 : decode cX10_findStates 93 = .ok (.iload_n 3, 1) := by decide +kernel
theorem dX10_findStates_94 : decode cX10_findStates 94 = .ok (.sipush 256, 3) := by decide +kernel
theorem dX10_findStates_97 : decode cX10_findStates 97 = .ok (.idiv, 1) := by decide +kernel
theorem dX10_findStates_98 : decode cX10_findStates 98 = .ok (.bipush 7, 2) := by decide +kernel
theorem dX10_findStates_100 : decode cX10_findStates 100 = .ok (.irem, 1) := by decide +kernel
theorem dX10_findStates_101 : decode cX10_findStates 101 = .ok (.iconst 1, 1) := by decide +kernel
theorem dX10_findStates_102 : decode cX10_findStates 102 = .ok (.isub, 1) := by decide +kernel
theorem dX10_findStates_103 : decode cX10_findStates 103 = .ok (.istore 5, 2) := by decide +kernel
theorem dX10_findStates_105 : decode cX10_findStates 105 = .ok (.iload_n 3, 1) := by decide +kernel
theorem dX10_findStates_106 : decode cX10_findStates 106 = .ok (.sipush 1792, 3) := by decide +kernel
theorem dX10_findStates_109 : decode cX10_findStates 109 = .ok (.idiv, 1) := by decide +kernel
theorem dX10_findStates_110 : decode cX10_findStates 110 = .ok (.iconst 2, 1) := by decide +kernel
theorem dX10_findStates_111 : decode cX10_findStates 111 = .ok (.irem, 1) := by decide +kernel
theorem dX10_findStates_112 : decode cX10_findStates 112 = .ok (.istore 6, 2) := by decide +kernel
theorem dX10_findStates_114 : decode cX10_findStates 114 = .ok (.iload_n 3, 1) := by decide +kernel
theorem dX10_findStates_115 : decode cX10_findStates 115 = .ok (.sipush 3584, 3) := by decide +kernel
theorem dX10_findStates_118 : decode cX10_findStates 118 = .ok (.idiv, 1) := by decide +kernel
theorem dX10_findStates_119 : decode cX10_findStates 119 = .ok (.istore 7, 2) := by decide +kernel
theorem dX10_findStates_121 : decode cX10_findStates 121 = .ok (.iconst 0, 1) := by decide +kernel
theorem dX10_findStates_122 : decode cX10_findStates 122 = .ok (.istore 8, 2) := by decide +kernel
theorem dX10_findStates_124 : decode cX10_findStates 124 = .ok (.iload 8, 2) := by decide +kernel
theorem dX10_findStates_126 : decode cX10_findStates 126 = .ok (.aload_n 0, 1) := by decide +kernel
theorem dX10_findStates_127 : decode cX10_findStates 127 = .ok (.getfield 77, 3) := by decide +kernel
theorem dX10_findStates_130 : decode cX10_findStates 130 = .ok (.if_icmp .ge 101, 3) := by decide +kernel
theorem dX10_findStates_133 : decode cX10_findStates 133 = .ok (.aload_n 0, 1) := by decide +kernel
theorem dX10_findStates_134 : decode cX10_findStates 134 = .ok (.iload 8, 2) := by decide +kernel
theorem dX10_findStates_136 : decode cX10_findStates 136 = .ok (.iload 7, 2) := by decide +kernel
theorem dX10_findStates_138 : decode cX10_findStates 138 = .ok (.iload 6, 2) := by decide +kernel
theorem dX10_findStates_140 : decode cX10_findStates 140 = .ok (.iload 5, 2) := by decide +kernel
theorem dX10_findStates_142 : decode cX10_findStates 142 = .ok (.iload 4, 2) := by decide +kernel
theorem dX10_findStates_144 : decode cX10_findStates 144 = .ok (.invokevirtual 147, 3) := by decide +kernel
theorem dX10_findStates_147 : decode cX10_findStates 147 = .ok (.istore 9, 2) := by decide +kernel
theorem dX10_findStates_149 : decode cX10_findStates 149 = .ok (.iload 9, 2) := by decide +kernel
theorem dX10_findStates_151 : decode cX10_findStates 151 = .ok (.ifCond .eq 74, 3) := by decide +kernel
theorem dX10_findStates_154 : decode cX10_findStates 154 = .ok (.aload_n 0, 1) := by decide +kernel
theorem dX10_findStates_155 : decode cX10_findStates 155 = .ok (.getfield 16, 3) := by decide +kernel
theorem dX10_findStates_158 : decode cX10_findStates 158 = .ok (.bipush 8, 2) := by decide +kernel
theorem dX10_findStates_160 : decode cX10_findStates 160 = .ok (.iload 8, 2) := by decide +kernel
theorem dX10_findStates_162 : decode cX10_findStates 162 = .ok (.imul, 1) := by decide +kernel
theorem dX10_findStates_163 : decode cX10_findStates 163 = .ok (.bipush 7, 2) := by decide +kernel
theorem dX10_findStates_165 : decode cX10_findStates 165 = .ok (.iadd, 1) := by decide +kernel
theorem dX10_findStates_166 : decode cX10_findStates 166 = .ok (.iaload, 1) := by decide +kernel
theorem dX10_findStates_167 : decode cX10_findStates 167 = .ok (.istore 10, 2) := by decide +kernel
theorem dX10_findStates_169 : decode cX10_findStates 169 = .ok (.aload_n 0, 1) := by decide +kernel
theorem dX10_findStates_170 : decode cX10_findStates 170 = .ok (.aload_n 0, 1) := by decide +kernel
theorem dX10_findStates_171 : decode cX10_findStates 171 = .ok (.aload_n 0, 1) := by decide +kernel
theorem dX10_findStates_172 : decode cX10_findStates 172 = .ok (.getfield 16, 3) := by decide +kernel
theorem dX10_findStates_175 : decode cX10_findStates 175 = .ok (.bipush 8, 2) := by decide +kernel
theorem dX10_findStates_177 : decode cX10_findStates 177 = .ok (.iload 8, 2) := by decide +kernel
theorem dX10_findStates_179 : decode cX10_findStates 179 = .ok (.imul, 1) := by decide +kernel
theorem dX10_findStates_180 : decode cX10_findStates 180 = .ok (.iconst 2, 1) := by decide +kernel
theorem dX10_findStates_181 : decode cX10_findStates 181 = .ok (.iadd, 1) := by decide +kernel
theorem dX10_findStates_182 : decode cX10_findStates 182 = .ok (.iaload, 1) := by decide +kernel
theorem dX10_findStates_183 : decode cX10_findStates 183 = .ok (.iload 10, 2) := by decide +kernel
theorem dX10_findStates_185 : decode cX10_findStates 185 = .ok (.iconst 1, 1) := by decide +kernel
theorem dX10_findStates_186 : decode cX10_findStates 186 = .ok (.iand, 1) := by decide +kernel
theorem dX10_findStates_187 : decode cX10_findStates 187 = .ok (.iload 10, 2) := by decide +kernel
theorem dX10_findStates_189 : decode cX10_findStates 189 = .ok (.iconst 4, 1) := by decide +kernel
theorem dX10_findStates_190 : decode cX10_findStates 190 = .ok (.iand, 1) := by decide +kernel
theorem dX10_findStates_191 : decode cX10_findStates 191 = .ok (.ifCond .eq 8, 3) := by decide +kernel
theorem dX10_findStates_194 : decode cX10_findStates 194 = .ok (.iload 7, 2) := by decide +kernel
theorem dX10_findStates_196 : decode cX10_findStates 196 = .ok (.goto 5, 3) := by decide +kernel
theorem dX10_findStates_199 : decode cX10_findStates 199 = .ok (.bipush (-4), 2) := by decide +kernel
theorem dX10_findStates_201 : decode cX10_findStates 201 = .ok (.iload 10, 2) := by decide +kernel
theorem dX10_findStates_203 : decode cX10_findStates 203 = .ok (.iconst 2, 1) := by decide +kernel
theorem dX10_findStates_204 : decode cX10_findStates 204 = .ok (.iand, 1) := by decide +kernel
theorem dX10_findStates_205 : decode cX10_findStates 205 = .ok (.ifCond .eq 8, 3) := by decide +kernel
theorem dX10_findStates_208 : decode cX10_findStates 208 = .ok (.iload 9, 2) := by decide +kernel
theorem dX10_findStates_210 : decode cX10_findStates 210 = .ok (.goto 6, 3) := by decide +kernel
theorem dX10_findStates_213 : decode cX10_findStates 213 = .ok (.sipush 255, 3) := by decide +kernel
theorem dX10_findStates_216 : decode cX10_findStates 216 = .ok (.invokevirtual 171, 3) := by decide +kernel
theorem dX10_findStates_219 : decode cX10_findStates 219 = .ok (.iload_n 3, 1) := by decide +kernel
theorem dX10_findStates_220 : decode cX10_findStates 220 = .ok (.iload 8, 2) := by decide +kernel
theorem dX10_findStates_222 : decode cX10_findStates 222 = .ok (.invokevirtual 175, 3) := by decide +kernel
theorem dX10_findStates_225 : decode cX10_findStates 225 = .ok (.iinc 8 1, 3) := by decide +kernel
theorem dX10_findStates_228 : decode cX10_findStates 228 = .ok (.goto (-104), 3) := by decide +kernel
theorem dX10_findStates_231 : decode cX10_findStates 231 = .ok (.iinc 2 1, 3) := by decide +kernel
theorem dX10_findStates_234 : decode cX10_findStates 234 = .ok (.goto (-163), 3) := by decide +kernel
theorem dX10_findStates_237 : decode cX10_findStates 237 = .ok (.return_, 1) := by decide +kernel
theorem dX10_road_0 : decode cX10_road 0 = .ok (.iload_n 1, 1) := by decide +kernel
theorem dX10_road_1 : decode cX10_road 1 = .ok (.invokestatic 83, 3) := by decide +kernel
theorem dX10_road_4 : decode cX10_road 4 = .ok (.ifCond .eq 16, 3) := by decide +kernel
theorem dX10_road_7 : decode cX10_road 7 = .ok (.aload_n 0, 1) := by decide +kernel
theorem dX10_road_8 : decode cX10_road 8 = .ok (.iload_n 2, 1) := by decide +kernel
theorem dX10_road_9 : decode cX10_road 9 = .ok (.invokevirtual 120, 3) := by decide +kernel
theorem dX10_road_12 : decode cX10_road 12 = .ok (.ifCond .eq 8, 3) := by decide +kernel
theorem dX10_road_15 : decode cX10_road 15 = .ok (.iload_n 3, 1) := by decide +kernel
theorem dX10_road_16 : decode cX10_road 16 = .ok (.iconst (-1), 1) := by decide +kernel
theorem dX10_road_17 : decode cX10_road 17 = .ok (.if_icmp .ge 5, 3) := by decide +kernel
theorem dX10_road_20 : decode cX10_road 20 = .ok (.iconst (-1), 1) := by decide +kernel
theorem dX10_road_21 : decode cX10_road 21 = .ok (.ireturn, 1) := by decide +kernel
theorem dX10_road_22 : decode cX10_road 22 = .ok (.aload_n 0, 1) := by decide +kernel
theorem dX10_road_23 : decode cX10_road 23 = .ok (.invokevirtual 179, 3) := by decide +kernel
theorem dX10_road_26 : decode cX10_road 26 = .ok (.bipush (-4), 2) := by decide +kernel
theorem dX10_road_28 : decode cX10_road 28 = .ok (.istore 4, 2) := by decide +kernel
theorem dX10_road_30 : decode cX10_road 30 = .ok (.aload_n 0, 1) := by decide +kernel
theorem dX10_road_31 : decode cX10_road 31 = .ok (.getfield 168, 3) := by decide +kernel
theorem dX10_road_34 : decode cX10_road 34 = .ok (.iconst 1, 1) := by decide +kernel
theorem dX10_road_35 : decode cX10_road 35 = .ok (.isub, 1) := by decide +kernel
theorem dX10_road_36 : decode cX10_road 36 = .ok (.istore 5, 2) := by decide +kernel
theorem dX10_road_38 : decode cX10_road 38 = .ok (.iload 5, 2) := by decide +kernel
theorem dX10_road_40 : decode cX10_road 40 = .ok (.ifCond .lt 58, 3) := by decide +kernel
theorem dX10_road_43 : decode cX10_road 43 = .ok (.aload_n 0, 1) := by decide +kernel
theorem dX10_road_44 : decode cX10_road 44 = .ok (.getfield 34, 3) := by decide +kernel
theorem dX10_road_47 : decode cX10_road 47 = .ok (.iload 5, 2) := by decide +kernel
theorem dX10_road_49 : decode cX10_road 49 = .ok (.iaload, 1) := by decide +kernel
theorem dX10_road_50 : decode cX10_road 50 = .ok (.sipush 3584, 3) := by decide +kernel
theorem dX10_road_53 : decode cX10_road 53 = .ok (.idiv, 1) := by decide +kernel
theorem dX10_road_54 : decode cX10_road 54 = .ok (.iload_n 1, 1) := by decide +kernel
theorem dX10_road_55 : decode cX10_road 55 = .ok (.if_icmp .ne 33, 3) := by decide +kernel
theorem dX10_road_58 : decode cX10_road 58 = .ok (.aload_n 0, 1) := by decide +kernel
theorem dX10_road_59 : decode cX10_road 59 = .ok (.iload_n 2, 1) := by decide +kernel
theorem dX10_road_60 : decode cX10_road 60 = .ok (.iload_n 1, 1) := by decide +kernel
theorem dX10_road_61 : decode cX10_road 61 = .ok (.aload_n 0, 1) := by decide +kernel
theorem dX10_road_62 : decode cX10_road 62 = .ok (.getfield 34, 3) := by decide +kernel
theorem dX10_road_65 : decode cX10_road 65 = .ok (.iload 5, 2) := by decide +kernel
theorem dX10_road_67 : decode cX10_road 67 = .ok (.iaload, 1) := by decide +kernel
theorem dX10_road_68 : decode cX10_road 68 = .ok (.sipush 256, 3) := by decide +kernel
theorem dX10_road_71 : decode cX10_road 71 = .ok (.irem, 1) := by decide +kernel
theorem dX10_road_72 : decode cX10_road 72 = .ok (.invokevirtual 161, 3) := by decide +kernel
theorem dX10_road_75 : decode cX10_road 75 = .ok (.ifCond .eq 13, 3) := by decide +kernel
theorem dX10_road_78 : decode cX10_road 78 = .ok (.aload_n 0, 1) := by decide +kernel
theorem dX10_road_79 : decode cX10_road 79 = .ok (.getfield 34, 3) := by decide +kernel
theorem dX10_road_82 : decode cX10_road 82 = .ok (.iload 5, 2) := by decide +kernel
theorem dX10_road_84 : decode cX10_road 84 = .ok (.iaload, 1) := by decide +kernel
theorem dX10_road_85 : decode cX10_road 85 = .ok (.goto 5, 3) := by decide +kernel
theorem dX10_road_88 : decode cX10_road 88 = .ok (.iload 4, 2) := by decide +kernel
theorem dX10_road_90 : decode cX10_road 90 = .ok (.istore 4, 2) := by decide +kernel
theorem dX10_road_92 : decode cX10_road 92 = .ok (.iinc 5 (-1), 3) := by decide +kernel
theorem dX10_road_95 : decode cX10_road 95 = .ok (.goto (-57), 3) := by decide +kernel
theorem dX10_road_98 : decode cX10_road 98 = .ok (.iload 4, 2) := by decide +kernel
theorem dX10_road_100 : decode cX10_road 100 = .ok (.ifCond .ge 6, 3) := by decide +kernel
theorem dX10_road_103 : decode cX10_road 103 = .ok (.bipush (-4), 2) := by decide +kernel
theorem dX10_road_105 : decode cX10_road 105 = .ok (.ireturn, 1) := by decide +kernel
theorem dX10_road_106 : decode cX10_road 106 = .ok (.iconst 0, 1) := by decide +kernel
theorem dX10_road_107 : decode cX10_road 107 = .ok (.istore 5, 2) := by decide +kernel
theorem dX10_road_109 : decode cX10_road 109 = .ok (.iload 4, 2) := by decide +kernel
theorem dX10_road_111 : decode cX10_road 111 = .ok (.istore 6, 2) := by decide +kernel
theorem dX10_road_113 : decode cX10_road 113 = .ok (.aload_n 0, 1) := by decide +kernel
theorem dX10_road_114 : decode cX10_road 114 = .ok (.getfield 28, 3) := by decide +kernel
theorem dX10_road_117 : decode cX10_road 117 = .ok (.iload 6, 2) := by decide +kernel
theorem dX10_road_119 : decode cX10_road 119 = .ok (.iaload, 1) := by decide +kernel
theorem dX10_road_120 : decode cX10_road 120 = .ok (.iload 6, 2) := by decide +kernel
theorem dX10_road_122 : decode cX10_road 122 = .ok (.if_icmp .eq 18, 3) := by decide +kernel
theorem dX10_road_125 : decode cX10_road 125 = .ok (.iinc 5 1, 3) := by decide +kernel
theorem dX10_road_128 : decode cX10_road 128 = .ok (.aload_n 0, 1) := by decide +kernel
theorem dX10_road_129 : decode cX10_road 129 = .ok (.getfield 28, 3) := by decide +kernel
theorem dX10_road_132 : decode cX10_road 132 = .ok (.iload 6, 2) := by decide +kernel
theorem dX10_road_134 : decode cX10_road 134 = .ok (.iaload, 1) := by decide +kernel
theorem dX10_road_135 : decode cX10_road 135 = .ok (.istore 6, 2) := by decide +kernel
theorem dX10_road_137 : decode cX10_road 137 = .ok (.goto (-24), 3) := by decide +kernel
theorem dX10_road_140 : decode cX10_road 140 = .ok (.iload_n 3, 1) := by decide +kernel
theorem dX10_road_141 : decode cX10_road 141 = .ok (.ifCond .ge 6, 3) := by decide +kernel
theorem dX10_road_144 : decode cX10_road 144 = .ok (.iload 5, 2) := by decide +kernel
theorem dX10_road_146 : decode cX10_road 146 = .ok (.ireturn, 1) := by decide +kernel
theorem dX10_road_147 : decode cX10_road 147 = .ok (.iload_n 3, 1) := by decide +kernel
theorem dX10_road_148 : decode cX10_road 148 = .ok (.iload 5, 2) := by decide +kernel
theorem dX10_road_150 : decode cX10_road 150 = .ok (.if_icmp .lt 6, 3) := by decide +kernel
theorem dX10_road_153 : decode cX10_road 153 = .ok (.bipush (-4), 2) := by decide +kernel
theorem dX10_road_155 : decode cX10_road 155 = .ok (.ireturn, 1) := by decide +kernel
theorem dX10_road_156 : decode cX10_road 156 = .ok (.iload 4, 2) := by decide +kernel
theorem dX10_road_158 : decode cX10_road 158 = .ok (.istore 6, 2) := by decide +kernel
theorem dX10_road_160 : decode cX10_road 160 = .ok (.iload 5, 2) := by decide +kernel
theorem dX10_road_162 : decode cX10_road 162 = .ok (.iconst 1, 1) := by decide +kernel
theorem dX10_road_163 : decode cX10_road 163 = .ok (.isub, 1) := by decide +kernel
theorem dX10_road_164 : decode cX10_road 164 = .ok (.istore 7, 2) := by decide +kernel
theorem dX10_road_166 : decode cX10_road 166 = .ok (.iload 7, 2) := by decide +kernel
theorem dX10_road_168 : decode cX10_road 168 = .ok (.iload_n 3, 1) := by decide +kernel
theorem dX10_road_169 : decode cX10_road 169 = .ok (.if_icmp .le 18, 3) := by decide +kernel
theorem dX10_road_172 : decode cX10_road 172 = .ok (.aload_n 0, 1) := by decide +kernel
theorem dX10_road_173 : decode cX10_road 173 = .ok (.getfield 28, 3) := by decide +kernel
theorem dX10_road_176 : decode cX10_road 176 = .ok (.iload 6, 2) := by decide +kernel
theorem dX10_road_178 : decode cX10_road 178 = .ok (.iaload, 1) := by decide +kernel
theorem dX10_road_179 : decode cX10_road 179 = .ok (.istore 6, 2) := by decide +kernel
theorem dX10_road_181 : decode cX10_road 181 = .ok (.iinc 7 (-1), 3) := by decide +kernel
theorem dX10_road_184 : decode cX10_road 184 = .ok (.goto (-18), 3) := by decide +kernel
theorem dX10_road_187 : decode cX10_road 187 = .ok (.aload_n 0, 1) := by decide +kernel
theorem dX10_road_188 : decode cX10_road 188 = .ok (.getfield 31, 3) := by decide +kernel
theorem dX10_road_191 : decode cX10_road 191 = .ok (.iload 6, 2) := by decide +kernel
theorem dX10_road_193 : decode cX10_road 193 = .ok (.iaload, 1) := by decide +kernel
theorem dX10_road_194 : decode cX10_road 194 = .ok (.ireturn, 1) := by decide +kernel
theorem dX10_lands_0 : decode cX10_lands 0 = .ok (.aload_n 0, 1) := by decide +kernel
theorem dX10_lands_1 : decode cX10_lands 1 = .ok (.invokevirtual 179, 3) := by decide +kernel
theorem dX10_lands_4 : decode cX10_lands 4 = .ok (.iconst 0, 1) := by decide +kernel
theorem dX10_lands_5 : decode cX10_lands 5 = .ok (.istore_n 1, 1) := by decide +kernel
theorem dX10_lands_6 : decode cX10_lands 6 = .ok (.iconst 0, 1) := by decide +kernel
theorem dX10_lands_7 : decode cX10_lands 7 = .ok (.istore_n 2, 1) := by decide +kernel
theorem dX10_lands_8 : decode cX10_lands 8 = .ok (.iload_n 2, 1) := by decide +kernel
theorem dX10_lands_9 : decode cX10_lands 9 = .ok (.aload_n 0, 1) := by decide +kernel
theorem dX10_lands_10 : decode cX10_lands 10 = .ok (.getfield 168, 3) := by decide +kernel
theorem dX10_lands_13 : decode cX10_lands 13 = .ok (.if_icmp .ge 24, 3) := by decide +kernel
theorem dX10_lands_16 : decode cX10_lands 16 = .ok (.iload_n 1, 1) := by decide +kernel
theorem dX10_lands_17 : decode cX10_lands 17 = .ok (.iconst 1, 1) := by decide +kernel
theorem dX10_lands_18 : decode cX10_lands 18 = .ok (.aload_n 0, 1) := by decide +kernel
theorem dX10_lands_19 : decode cX10_lands 19 = .ok (.getfield 34, 3) := by decide +kernel
theorem dX10_lands_22 : decode cX10_lands 22 = .ok (.iload_n 2, 1) := by decide +kernel
theorem dX10_lands_23 : decode cX10_lands 23 = .ok (.iaload, 1) := by decide +kernel
theorem dX10_lands_24 : decode cX10_lands 24 = .ok (.sipush 3584, 3) := by decide +kernel
theorem dX10_lands_27 : decode cX10_lands 27 = .ok (.idiv, 1) := by decide +kernel
theorem dX10_lands_28 : decode cX10_lands 28 = .ok (.ishl, 1) := by decide +kernel
theorem dX10_lands_29 : decode cX10_lands 29 = .ok (.ior, 1) := by decide +kernel
theorem dX10_lands_30 : decode cX10_lands 30 = .ok (.istore_n 1, 1) := by decide +kernel
theorem dX10_lands_31 : decode cX10_lands 31 = .ok (.iinc 2 1, 3) := by decide +kernel
theorem dX10_lands_34 : decode cX10_lands 34 = .ok (.goto (-26), 3) := by decide +kernel
theorem dX10_lands_37 : decode cX10_lands 37 = .ok (.iload_n 1, 1) := by decide +kernel
theorem dX10_lands_38 : decode cX10_lands 38 = .ok (.ireturn, 1) := by decide +kernel
theorem dX10_safe_0 : decode cX10_safe 0 = .ok (.iload_n 1, 1) := by decide +kernel
theorem dX10_safe_1 : decode cX10_safe 1 = .ok (.i2l, 1) := by decide +kernel
theorem dX10_safe_2 : decode cX10_safe 2 = .ok (.lconst 0, 1) := by decide +kernel
theorem dX10_safe_3 : decode cX10_safe 3 = .ok (.lconst 1, 1) := by decide +kernel
theorem dX10_safe_4 : decode cX10_safe 4 = .ok (.invokestatic 69, 3) := by decide +kernel
theorem dX10_safe_7 : decode cX10_safe 7 = .ok (.ifCond .ne 5, 3) := by decide +kernel
theorem dX10_safe_10 : decode cX10_safe 10 = .ok (.iconst (-1), 1) := by decide +kernel
theorem dX10_safe_11 : decode cX10_safe 11 = .ok (.ireturn, 1) := by decide +kernel
theorem dX10_safe_12 : decode cX10_safe 12 = .ok (.aload_n 0, 1) := by decide +kernel
theorem dX10_safe_13 : decode cX10_safe 13 = .ok (.invokevirtual 151, 3) := by decide +kernel
theorem dX10_safe_16 : decode cX10_safe 16 = .ok (.iconst 0, 1) := by decide +kernel
theorem dX10_safe_17 : decode cX10_safe 17 = .ok (.istore_n 2, 1) := by decide +kernel
theorem dX10_safe_18 : decode cX10_safe 18 = .ok (.iconst 0, 1) := by decide +kernel
theorem dX10_safe_19 : decode cX10_safe 19 = .ok (.istore_n 3, 1) := by decide +kernel
theorem dX10_safe_20 : decode cX10_safe 20 = .ok (.iload_n 3, 1) := by decide +kernel
theorem dX10_safe_21 : decode cX10_safe 21 = .ok (.bipush 6, 2) := by decide +kernel
theorem dX10_safe_23 : decode cX10_safe 23 = .ok (.if_icmp .ge 92, 3) := by decide +kernel
theorem dX10_safe_26 : decode cX10_safe 26 = .ok (.iload_n 1, 1) := by decide +kernel
theorem dX10_safe_27 : decode cX10_safe 27 = .ok (.ifCond .eq 14, 3) := by decide +kernel
theorem dX10_safe_30 : decode cX10_safe 30 = .ok (.aload_n 0, 1) := by decide +kernel
theorem dX10_safe_31 : decode cX10_safe 31 = .ok (.iload_n 3, 1) := by decide +kernel
theorem dX10_safe_32 : decode cX10_safe 32 = .ok (.sipush 255, 3) := by decide +kernel
theorem dX10_safe_35 : decode cX10_safe 35 = .ok (.invokevirtual 165, 3) := by decide +kernel
theorem dX10_safe_38 : decode cX10_safe 38 = .ok (.ifCond .ne 7, 3) := by decide +kernel
theorem dX10_safe_41 : decode cX10_safe 41 = .ok (.iconst 1, 1) := by decide +kernel
theorem dX10_safe_42 : decode cX10_safe 42 = .ok (.goto 4, 3) := by decide +kernel
theorem dX10_safe_45 : decode cX10_safe 45 = .ok (.iconst 0, 1) := by decide +kernel
theorem dX10_safe_46 : decode cX10_safe 46 = .ok (.istore 4, 2) := by decide +kernel
theorem dX10_safe_48 : decode cX10_safe 48 = .ok (.iconst 0, 1) := by decide +kernel
theorem dX10_safe_49 : decode cX10_safe 49 = .ok (.istore 5, 2) := by decide +kernel
theorem dX10_safe_51 : decode cX10_safe 51 = .ok (.iload 5, 2) := by decide +kernel
theorem dX10_safe_53 : decode cX10_safe 53 = .ok (.aload_n 0, 1) := by decide +kernel
theorem dX10_safe_54 : decode cX10_safe 54 = .ok (.getfield 77, 3) := by decide +kernel
theorem dX10_safe_57 : decode cX10_safe 57 = .ok (.if_icmp .ge 37, 3) := by decide +kernel
theorem dX10_safe_60 : decode cX10_safe 60 = .ok (.iload 4, 2) := by decide +kernel
theorem dX10_safe_62 : decode cX10_safe 62 = .ok (.ifCond .eq 32, 3) := by decide +kernel
theorem dX10_safe_65 : decode cX10_safe 65 = .ok (.aload_n 0, 1) := by decide +kernel
theorem dX10_safe_66 : decode cX10_safe 66 = .ok (.iload 5, 2) := by decide +kernel
theorem dX10_safe_68 : decode cX10_safe 68 = .ok (.iload_n 3, 1) := by decide +kernel
theorem dX10_safe_69 : decode cX10_safe 69 = .ok (.iconst 0, 1) := by decide +kernel
theorem dX10_safe_70 : decode cX10_safe 70 = .ok (.bipush (-4), 2) := by decide +kernel
theorem dX10_safe_72 : decode cX10_safe 72 = .ok (.sipush 255, 3) := by decide +kernel
theorem dX10_safe_75 : decode cX10_safe 75 = .ok (.invokevirtual 147, 3) := by decide +kernel
theorem dX10_safe_78 : decode cX10_safe 78 = .ok (.ifCond .ne 7, 3) := by decide +kernel
theorem dX10_safe_81 : decode cX10_safe 81 = .ok (.iconst 1, 1) := by decide +kernel
theorem dX10_safe_82 : decode cX10_safe 82 = .ok (.goto 4, 3) := by decide +kernel
theorem dX10_safe_85 : decode cX10_safe 85 = .ok (.iconst 0, 1) := by decide +kernel
theorem dX10_safe_86 : decode cX10_safe 86 = .ok (.istore 4, 2) := by decide +kernel
theorem dX10_safe_88 : decode cX10_safe 88 = .ok (.iinc 5 1, 3) := by decide +kernel
theorem dX10_safe_91 : decode cX10_safe 91 = .ok (.goto (-40), 3) := by decide +kernel
theorem dX10_safe_94 : decode cX10_safe 94 = .ok (.iload_n 2, 1) := by decide +kernel
theorem dX10_safe_95 : decode cX10_safe 95 = .ok (.iload 4, 2) := by decide +kernel
theorem dX10_safe_97 : decode cX10_safe 97 = .ok (.ifCond .eq 9, 3) := by decide +kernel
theorem dX10_safe_100 : decode cX10_safe 100 = .ok (.iconst 1, 1) := by decide +kernel
theorem dX10_safe_101 : decode cX10_safe 101 = .ok (.iload_n 3, 1) := by decide +kernel
theorem dX10_safe_102 : decode cX10_safe 102 = .ok (.ishl, 1) := by decide +kernel
theorem dX10_safe_103 : decode cX10_safe 103 = .ok (.goto 4, 3) := by decide +kernel
theorem dX10_safe_106 : decode cX10_safe 106 = .ok (.iconst 0, 1) := by decide +kernel
theorem dX10_safe_107 : decode cX10_safe 107 = .ok (.ior, 1) := by decide +kernel
theorem dX10_safe_108 : decode cX10_safe 108 = .ok (.istore_n 2, 1) := by decide +kernel
theorem dX10_safe_109 : decode cX10_safe 109 = .ok (.iinc 3 1, 3) := by decide +kernel
theorem dX10_safe_112 : decode cX10_safe 112 = .ok (.goto (-92), 3) := by decide +kernel
theorem dX10_safe_115 : decode cX10_safe 115 = .ok (.iload_n 2, 1) := by decide +kernel
theorem dX10_safe_116 : decode cX10_safe 116 = .ok (.ireturn, 1) := by decide +kernel
theorem dX10_demand_0 : decode cX10_demand 0 = .ok (.iload_n 1, 1) := by decide +kernel
theorem dX10_demand_1 : decode cX10_demand 1 = .ok (.invokestatic 83, 3) := by decide +kernel
theorem dX10_demand_4 : decode cX10_demand 4 = .ok (.ifCond .eq 29, 3) := by decide +kernel
theorem dX10_demand_7 : decode cX10_demand 7 = .ok (.iload_n 2, 1) := by decide +kernel
theorem dX10_demand_8 : decode cX10_demand 8 = .ok (.i2l, 1) := by decide +kernel
theorem dX10_demand_9 : decode cX10_demand 9 = .ok (.lconst 1, 1) := by decide +kernel
theorem dX10_demand_10 : decode cX10_demand 10 = .ok (.aload_n 0, 1) := by decide +kernel
theorem dX10_demand_11 : decode cX10_demand 11 = .ok (.invokevirtual 131, 3) := by decide +kernel
theorem dX10_demand_14 : decode cX10_demand 14 = .ok (.i2l, 1) := by decide +kernel
theorem dX10_demand_15 : decode cX10_demand 15 = .ok (.invokestatic 69, 3) := by decide +kernel
theorem dX10_demand_18 : decode cX10_demand 18 = .ok (.ifCond .eq 15, 3) := by decide +kernel
theorem dX10_demand_21 : decode cX10_demand 21 = .ok (.iload_n 3, 1) := by decide +kernel
theorem dX10_demand_22 : decode cX10_demand 22 = .ok (.i2l, 1) := by decide +kernel
theorem dX10_demand_23 : decode cX10_demand 23 = .ok (.lconst 0, 1) := by decide +kernel
theorem dX10_demand_24 : decode cX10_demand 24 = .ok (.ldc2_w 95, 3) := by decide +kernel
theorem dX10_demand_27 : decode cX10_demand 27 = .ok (.invokestatic 69, 3) := by decide +kernel
theorem dX10_demand_30 : decode cX10_demand 30 = .ok (.ifCond .ne 5, 3) := by decide +kernel
theorem dX10_demand_33 : decode cX10_demand 33 = .ok (.iconst (-1), 1) := by decide +kernel
theorem dX10_demand_34 : decode cX10_demand 34 = .ok (.ireturn, 1) := by decide +kernel
theorem dX10_demand_35 : decode cX10_demand 35 = .ok (.aload_n 0, 1) := by decide +kernel
theorem dX10_demand_36 : decode cX10_demand 36 = .ok (.getfield 126, 3) := by decide +kernel
theorem dX10_demand_39 : decode cX10_demand 39 = .ok (.bipush 8, 2) := by decide +kernel
theorem dX10_demand_41 : decode cX10_demand 41 = .ok (.if_icmp .ne 6, 3) := by decide +kernel
theorem dX10_demand_44 : decode cX10_demand 44 = .ok (.bipush (-3), 2) := by decide +kernel
theorem dX10_demand_46 : decode cX10_demand 46 = .ok (.ireturn, 1) := by decide +kernel
theorem dX10_demand_47 : decode cX10_demand 47 = .ok (.aload_n 0, 1) := by decide +kernel
theorem dX10_demand_48 : decode cX10_demand 48 = .ok (.getfield 19, 3) := by decide +kernel
theorem dX10_demand_51 : decode cX10_demand 51 = .ok (.iconst 3, 1) := by decide +kernel
theorem dX10_demand_52 : decode cX10_demand 52 = .ok (.aload_n 0, 1) := by decide +kernel
theorem dX10_demand_53 : decode cX10_demand 53 = .ok (.getfield 126, 3) := by decide +kernel
theorem dX10_demand_56 : decode cX10_demand 56 = .ok (.imul, 1) := by decide +kernel
theorem dX10_demand_57 : decode cX10_demand 57 = .ok (.iload_n 1, 1) := by decide +kernel
theorem dX10_demand_58 : decode cX10_demand 58 = .ok (.iastore, 1) := by decide +kernel
theorem dX10_demand_59 : decode cX10_demand 59 = .ok (.aload_n 0, 1) := by decide +kernel
theorem dX10_demand_60 : decode cX10_demand 60 = .ok (.getfield 19, 3) := by decide +kernel
theorem dX10_demand_63 : decode cX10_demand 63 = .ok (.iconst 3, 1) := by decide +kernel
theorem dX10_demand_64 : decode cX10_demand 64 = .ok (.aload_n 0, 1) := by decide +kernel
theorem dX10_demand_65 : decode cX10_demand 65 = .ok (.getfield 126, 3) := by decide +kernel
theorem dX10_demand_68 : decode cX10_demand 68 = .ok (.imul, 1) := by decide +kernel
theorem dX10_demand_69 : decode cX10_demand 69 = .ok (.iconst 1, 1) := by decide +kernel
theorem dX10_demand_70 : decode cX10_demand 70 = .ok (.iadd, 1) := by decide +kernel
theorem dX10_demand_71 : decode cX10_demand 71 = .ok (.iload_n 2, 1) := by decide +kernel
theorem dX10_demand_72 : decode cX10_demand 72 = .ok (.iastore, 1) := by decide +kernel
theorem dX10_demand_73 : decode cX10_demand 73 = .ok (.aload_n 0, 1) := by decide +kernel
theorem dX10_demand_74 : decode cX10_demand 74 = .ok (.getfield 19, 3) := by decide +kernel
theorem dX10_demand_77 : decode cX10_demand 77 = .ok (.iconst 3, 1) := by decide +kernel
theorem dX10_demand_78 : decode cX10_demand 78 = .ok (.aload_n 0, 1) := by decide +kernel
theorem dX10_demand_79 : decode cX10_demand 79 = .ok (.getfield 126, 3) := by decide +kernel
theorem dX10_demand_82 : decode cX10_demand 82 = .ok (.imul, 1) := by decide +kernel
theorem dX10_demand_83 : decode cX10_demand 83 = .ok (.iconst 2, 1) := by decide +kernel
theorem dX10_demand_84 : decode cX10_demand 84 = .ok (.iadd, 1) := by decide +kernel
theorem dX10_demand_85 : decode cX10_demand 85 = .ok (.iload_n 3, 1) := by decide +kernel
theorem dX10_demand_86 : decode cX10_demand 86 = .ok (.iastore, 1) := by decide +kernel
theorem dX10_demand_87 : decode cX10_demand 87 = .ok (.aload_n 0, 1) := by decide +kernel
theorem dX10_demand_88 : decode cX10_demand 88 = .ok (.dup, 1) := by decide +kernel
theorem dX10_demand_89 : decode cX10_demand 89 = .ok (.getfield 126, 3) := by decide +kernel
theorem dX10_demand_92 : decode cX10_demand 92 = .ok (.iconst 1, 1) := by decide +kernel
theorem dX10_demand_93 : decode cX10_demand 93 = .ok (.iadd, 1) := by decide +kernel
theorem dX10_demand_94 : decode cX10_demand 94 = .ok (.putfield 126, 3) := by decide +kernel
theorem dX10_demand_97 : decode cX10_demand 97 = .ok (.aload_n 0, 1) := by decide +kernel
theorem dX10_demand_98 : decode cX10_demand 98 = .ok (.getfield 126, 3) := by decide +kernel
theorem dX10_demand_101 : decode cX10_demand 101 = .ok (.iconst 1, 1) := by decide +kernel
theorem dX10_demand_102 : decode cX10_demand 102 = .ok (.isub, 1) := by decide +kernel
theorem dX10_demand_103 : decode cX10_demand 103 = .ok (.ireturn, 1) := by decide +kernel
theorem dX10_standsFor_0 : decode cX10_standsFor 0 = .ok (.iconst 0, 1) := by decide +kernel
theorem dX10_standsFor_1 : decode cX10_standsFor 1 = .ok (.istore_n 2, 1) := by decide +kernel
theorem dX10_standsFor_2 : decode cX10_standsFor 2 = .ok (.iconst 0, 1) := by decide +kernel
theorem dX10_standsFor_3 : decode cX10_standsFor 3 = .ok (.istore_n 3, 1) := by decide +kernel
theorem dX10_standsFor_4 : decode cX10_standsFor 4 = .ok (.iload_n 3, 1) := by decide +kernel
theorem dX10_standsFor_5 : decode cX10_standsFor 5 = .ok (.aload_n 0, 1) := by decide +kernel
theorem dX10_standsFor_6 : decode cX10_standsFor 6 = .ok (.getfield 77, 3) := by decide +kernel
theorem dX10_standsFor_9 : decode cX10_standsFor 9 = .ok (.if_icmp .ge 54, 3) := by decide +kernel
theorem dX10_standsFor_12 : decode cX10_standsFor 12 = .ok (.iload_n 2, 1) := by decide +kernel
theorem dX10_standsFor_13 : decode cX10_standsFor 13 = .ok (.aload_n 0, 1) := by decide +kernel
theorem dX10_standsFor_14 : decode cX10_standsFor 14 = .ok (.getfield 16, 3) := by decide +kernel
theorem dX10_standsFor_17 : decode cX10_standsFor 17 = .ok (.bipush 8, 2) := by decide +kernel
theorem dX10_standsFor_19 : decode cX10_standsFor 19 = .ok (.iload_n 3, 1) := by decide +kernel
theorem dX10_standsFor_20 : decode cX10_standsFor 20 = .ok (.imul, 1) := by decide +kernel
theorem dX10_standsFor_21 : decode cX10_standsFor 21 = .ok (.iconst 2, 1) := by decide +kernel
theorem dX10_standsFor_22 : decode cX10_standsFor 22 = .ok (.iadd, 1) := by decide +kernel
theorem dX10_standsFor_23 : decode cX10_standsFor 23 = .ok (.iaload, 1) := by decide +kernel
theorem dX10_standsFor_24 : decode cX10_standsFor 24 = .ok (.aload_n 0, 1) := by decide +kernel
theorem dX10_standsFor_25 : decode cX10_standsFor 25 = .ok (.getfield 19, 3) := by decide +kernel
theorem dX10_standsFor_28 : decode cX10_standsFor 28 = .ok (.iconst 3, 1) := by decide +kernel
theorem dX10_standsFor_29 : decode cX10_standsFor 29 = .ok (.iload_n 1, 1) := by decide +kernel
theorem dX10_standsFor_30 : decode cX10_standsFor 30 = .ok (.imul, 1) := by decide +kernel
theorem dX10_standsFor_31 : decode cX10_standsFor 31 = .ok (.iaload, 1) := by decide +kernel
theorem dX10_standsFor_32 : decode cX10_standsFor 32 = .ok (.if_icmp .ne 22, 3) := by decide +kernel
theorem dX10_standsFor_35 : decode cX10_standsFor 35 = .ok (.aload_n 0, 1) := by decide +kernel
theorem dX10_standsFor_36 : decode cX10_standsFor 36 = .ok (.iload_n 3, 1) := by decide +kernel
theorem dX10_standsFor_37 : decode cX10_standsFor 37 = .ok (.invokevirtual 154, 3) := by decide +kernel
theorem dX10_standsFor_40 : decode cX10_standsFor 40 = .ok (.aload_n 0, 1) := by decide +kernel
theorem dX10_standsFor_41 : decode cX10_standsFor 41 = .ok (.getfield 19, 3) := by decide +kernel
theorem dX10_standsFor_44 : decode cX10_standsFor 44 = .ok (.iconst 3, 1) := by decide +kernel
theorem dX10_standsFor_45 : decode cX10_standsFor 45 = .ok (.iload_n 1, 1) := by decide +kernel
theorem dX10_standsFor_46 : decode cX10_standsFor 46 = .ok (.imul, 1) := by decide +kernel
theorem dX10_standsFor_47 : decode cX10_standsFor 47 = .ok (.iconst 1, 1) := by decide +kernel
theorem dX10_standsFor_48 : decode cX10_standsFor 48 = .ok (.iadd, 1) := by decide +kernel
theorem dX10_standsFor_49 : decode cX10_standsFor 49 = .ok (.iaload, 1) := by decide +kernel
theorem dX10_standsFor_50 : decode cX10_standsFor 50 = .ok (.iand, 1) := by decide +kernel
theorem dX10_standsFor_51 : decode cX10_standsFor 51 = .ok (.goto 4, 3) := by decide +kernel
theorem dX10_standsFor_54 : decode cX10_standsFor 54 = .ok (.iconst 0, 1) := by decide +kernel
theorem dX10_standsFor_55 : decode cX10_standsFor 55 = .ok (.ior, 1) := by decide +kernel
theorem dX10_standsFor_56 : decode cX10_standsFor 56 = .ok (.istore_n 2, 1) := by decide +kernel
theorem dX10_standsFor_57 : decode cX10_standsFor 57 = .ok (.iinc 3 1, 3) := by decide +kernel
theorem dX10_standsFor_60 : decode cX10_standsFor 60 = .ok (.goto (-56), 3) := by decide +kernel
theorem dX10_standsFor_63 : decode cX10_standsFor 63 = .ok (.iload_n 2, 1) := by decide +kernel
theorem dX10_standsFor_64 : decode cX10_standsFor 64 = .ok (.ireturn, 1) := by decide +kernel
theorem dX10_greatestYears_0 : decode cX10_greatestYears 0 = .ok (.aload_n 0, 1) := by decide +kernel
theorem dX10_greatestYears_1 : decode cX10_greatestYears 1 = .ok (.iload_n 1, 1) := by decide +kernel
theorem dX10_greatestYears_2 : decode cX10_greatestYears 2 = .ok (.invokevirtual 182, 3) := by decide +kernel
theorem dX10_greatestYears_5 : decode cX10_greatestYears 5 = .ok (.istore_n 2, 1) := by decide +kernel
theorem dX10_greatestYears_6 : decode cX10_greatestYears 6 = .ok (.iconst 0, 1) := by decide +kernel
theorem dX10_greatestYears_7 : decode cX10_greatestYears 7 = .ok (.istore_n 3, 1) := by decide +kernel
theorem dX10_greatestYears_8 : decode cX10_greatestYears 8 = .ok (.iconst 0, 1) := by decide +kernel
theorem dX10_greatestYears_9 : decode cX10_greatestYears 9 = .ok (.istore 4, 2) := by decide +kernel
theorem dX10_greatestYears_11 : decode cX10_greatestYears 11 = .ok (.iload 4, 2) := by decide +kernel
theorem dX10_greatestYears_13 : decode cX10_greatestYears 13 = .ok (.aload_n 0, 1) := by decide +kernel
theorem dX10_greatestYears_14 : decode cX10_greatestYears 14 = .ok (.getfield 73, 3) := by decide +kernel
theorem dX10_greatestYears_17 : decode cX10_greatestYears 17 = .ok (.if_icmp .ge 55, 3) := by decide +kernel
theorem dX10_greatestYears_20 : decode cX10_greatestYears 20 = .ok (.aload_n 0, 1) := by decide +kernel
theorem dX10_greatestYears_21 : decode cX10_greatestYears 21 = .ok (.aload_n 0, 1) := by decide +kernel
theorem dX10_greatestYears_22 : decode cX10_greatestYears 22 = .ok (.getfield 13, 3) := by decide +kernel
theorem dX10_greatestYears_25 : decode cX10_greatestYears 25 = .ok (.iconst 5, 1) := by decide +kernel
theorem dX10_greatestYears_26 : decode cX10_greatestYears 26 = .ok (.iload 4, 2) := by decide +kernel
theorem dX10_greatestYears_28 : decode cX10_greatestYears 28 = .ok (.imul, 1) := by decide +kernel
theorem dX10_greatestYears_29 : decode cX10_greatestYears 29 = .ok (.iaload, 1) := by decide +kernel
theorem dX10_greatestYears_30 : decode cX10_greatestYears 30 = .ok (.aload_n 0, 1) := by decide +kernel
theorem dX10_greatestYears_31 : decode cX10_greatestYears 31 = .ok (.getfield 19, 3) := by decide +kernel
theorem dX10_greatestYears_34 : decode cX10_greatestYears 34 = .ok (.iconst 3, 1) := by decide +kernel
theorem dX10_greatestYears_35 : decode cX10_greatestYears 35 = .ok (.iload_n 1, 1) := by decide +kernel
theorem dX10_greatestYears_36 : decode cX10_greatestYears 36 = .ok (.imul, 1) := by decide +kernel
theorem dX10_greatestYears_37 : decode cX10_greatestYears 37 = .ok (.iaload, 1) := by decide +kernel
theorem dX10_greatestYears_38 : decode cX10_greatestYears 38 = .ok (.invokevirtual 123, 3) := by decide +kernel
theorem dX10_greatestYears_41 : decode cX10_greatestYears 41 = .ok (.istore 5, 2) := by decide +kernel
theorem dX10_greatestYears_43 : decode cX10_greatestYears 43 = .ok (.iload_n 2, 1) := by decide +kernel
theorem dX10_greatestYears_44 : decode cX10_greatestYears 44 = .ok (.iload 4, 2) := by decide +kernel
theorem dX10_greatestYears_46 : decode cX10_greatestYears 46 = .ok (.ishr, 1) := by decide +kernel
theorem dX10_greatestYears_47 : decode cX10_greatestYears 47 = .ok (.iconst 1, 1) := by decide +kernel
theorem dX10_greatestYears_48 : decode cX10_greatestYears 48 = .ok (.iand, 1) := by decide +kernel
theorem dX10_greatestYears_49 : decode cX10_greatestYears 49 = .ok (.iconst 1, 1) := by decide +kernel
theorem dX10_greatestYears_50 : decode cX10_greatestYears 50 = .ok (.if_icmp .ne 14, 3) := by decide +kernel
theorem dX10_greatestYears_53 : decode cX10_greatestYears 53 = .ok (.iload 5, 2) := by decide +kernel
theorem dX10_greatestYears_55 : decode cX10_greatestYears 55 = .ok (.iload_n 3, 1) := by decide +kernel
theorem dX10_greatestYears_56 : decode cX10_greatestYears 56 = .ok (.if_icmp .le 8, 3) := by decide +kernel
theorem dX10_greatestYears_59 : decode cX10_greatestYears 59 = .ok (.iload 5, 2) := by decide +kernel
theorem dX10_greatestYears_61 : decode cX10_greatestYears 61 = .ok (.goto 4, 3) := by decide +kernel
theorem dX10_greatestYears_64 : decode cX10_greatestYears 64 = .ok (.iload_n 3, 1) := by decide +kernel
theorem dX10_greatestYears_65 : decode cX10_greatestYears 65 = .ok (.istore_n 3, 1) := by decide +kernel
theorem dX10_greatestYears_66 : decode cX10_greatestYears 66 = .ok (.iinc 4 1, 3) := by decide +kernel
theorem dX10_greatestYears_69 : decode cX10_greatestYears 69 = .ok (.goto (-58), 3) := by decide +kernel
theorem dX10_greatestYears_72 : decode cX10_greatestYears 72 = .ok (.iload_n 3, 1) := by decide +kernel
theorem dX10_greatestYears_73 : decode cX10_greatestYears 73 = .ok (.ireturn, 1) := by decide +kernel
theorem dX10_wasThere_0 : decode cX10_wasThere 0 = .ok (.aload_n 0, 1) := by decide +kernel
theorem dX10_wasThere_1 : decode cX10_wasThere 1 = .ok (.iload_n 1, 1) := by decide +kernel
theorem dX10_wasThere_2 : decode cX10_wasThere 2 = .ok (.invokevirtual 182, 3) := by decide +kernel
theorem dX10_wasThere_5 : decode cX10_wasThere 5 = .ok (.istore_n 2, 1) := by decide +kernel
theorem dX10_wasThere_6 : decode cX10_wasThere 6 = .ok (.iconst 0, 1) := by decide +kernel
theorem dX10_wasThere_7 : decode cX10_wasThere 7 = .ok (.istore_n 3, 1) := by decide +kernel
theorem dX10_wasThere_8 : decode cX10_wasThere 8 = .ok (.iconst 0, 1) := by decide +kernel
theorem dX10_wasThere_9 : decode cX10_wasThere 9 = .ok (.istore 4, 2) := by decide +kernel
theorem dX10_wasThere_11 : decode cX10_wasThere 11 = .ok (.iload 4, 2) := by decide +kernel
theorem dX10_wasThere_13 : decode cX10_wasThere 13 = .ok (.aload_n 0, 1) := by decide +kernel
theorem dX10_wasThere_14 : decode cX10_wasThere 14 = .ok (.getfield 73, 3) := by decide +kernel
theorem dX10_wasThere_17 : decode cX10_wasThere 17 = .ok (.if_icmp .ge 47, 3) := by decide +kernel
theorem dX10_wasThere_20 : decode cX10_wasThere 20 = .ok (.iload_n 2, 1) := by decide +kernel
theorem dX10_wasThere_21 : decode cX10_wasThere 21 = .ok (.iload 4, 2) := by decide +kernel
theorem dX10_wasThere_23 : decode cX10_wasThere 23 = .ok (.ishr, 1) := by decide +kernel
theorem dX10_wasThere_24 : decode cX10_wasThere 24 = .ok (.iconst 1, 1) := by decide +kernel
theorem dX10_wasThere_25 : decode cX10_wasThere 25 = .ok (.iand, 1) := by decide +kernel
theorem dX10_wasThere_26 : decode cX10_wasThere 26 = .ok (.iconst 1, 1) := by decide +kernel
theorem dX10_wasThere_27 : decode cX10_wasThere 27 = .ok (.if_icmp .ne 29, 3) := by decide +kernel
theorem dX10_wasThere_30 : decode cX10_wasThere 30 = .ok (.aload_n 0, 1) := by decide +kernel
theorem dX10_wasThere_31 : decode cX10_wasThere 31 = .ok (.getfield 13, 3) := by decide +kernel
theorem dX10_wasThere_34 : decode cX10_wasThere 34 = .ok (.iconst 5, 1) := by decide +kernel
theorem dX10_wasThere_35 : decode cX10_wasThere 35 = .ok (.iload 4, 2) := by decide +kernel
theorem dX10_wasThere_37 : decode cX10_wasThere 37 = .ok (.imul, 1) := by decide +kernel
theorem dX10_wasThere_38 : decode cX10_wasThere 38 = .ok (.iconst 2, 1) := by decide +kernel
theorem dX10_wasThere_39 : decode cX10_wasThere 39 = .ok (.iadd, 1) := by decide +kernel
theorem dX10_wasThere_40 : decode cX10_wasThere 40 = .ok (.iaload, 1) := by decide +kernel
theorem dX10_wasThere_41 : decode cX10_wasThere 41 = .ok (.aload_n 0, 1) := by decide +kernel
theorem dX10_wasThere_42 : decode cX10_wasThere 42 = .ok (.getfield 19, 3) := by decide +kernel
theorem dX10_wasThere_45 : decode cX10_wasThere 45 = .ok (.iconst 3, 1) := by decide +kernel
theorem dX10_wasThere_46 : decode cX10_wasThere 46 = .ok (.iload_n 1, 1) := by decide +kernel
theorem dX10_wasThere_47 : decode cX10_wasThere 47 = .ok (.imul, 1) := by decide +kernel
theorem dX10_wasThere_48 : decode cX10_wasThere 48 = .ok (.iaload, 1) := by decide +kernel
theorem dX10_wasThere_49 : decode cX10_wasThere 49 = .ok (.if_icmp .ne 7, 3) := by decide +kernel
theorem dX10_wasThere_52 : decode cX10_wasThere 52 = .ok (.iconst 1, 1) := by decide +kernel
theorem dX10_wasThere_53 : decode cX10_wasThere 53 = .ok (.goto 4, 3) := by decide +kernel
theorem dX10_wasThere_56 : decode cX10_wasThere 56 = .ok (.iload_n 3, 1) := by decide +kernel
theorem dX10_wasThere_57 : decode cX10_wasThere 57 = .ok (.istore_n 3, 1) := by decide +kernel
theorem dX10_wasThere_58 : decode cX10_wasThere 58 = .ok (.iinc 4 1, 3) := by decide +kernel
theorem dX10_wasThere_61 : decode cX10_wasThere 61 = .ok (.goto (-50), 3) := by decide +kernel
theorem dX10_wasThere_64 : decode cX10_wasThere 64 = .ok (.iload_n 3, 1) := by decide +kernel
theorem dX10_wasThere_65 : decode cX10_wasThere 65 = .ok (.ireturn, 1) := by decide +kernel
theorem dX10_isAhead_0 : decode cX10_isAhead 0 = .ok (.aload_n 0, 1) := by decide +kernel
theorem dX10_isAhead_1 : decode cX10_isAhead 1 = .ok (.iload_n 1, 1) := by decide +kernel
theorem dX10_isAhead_2 : decode cX10_isAhead 2 = .ok (.invokevirtual 185, 3) := by decide +kernel
theorem dX10_isAhead_5 : decode cX10_isAhead 5 = .ok (.istore_n 3, 1) := by decide +kernel
theorem dX10_isAhead_6 : decode cX10_isAhead 6 = .ok (.aload_n 0, 1) := by decide +kernel
theorem dX10_isAhead_7 : decode cX10_isAhead 7 = .ok (.iload_n 2, 1) := by decide +kernel
theorem dX10_isAhead_8 : decode cX10_isAhead 8 = .ok (.invokevirtual 185, 3) := by decide +kernel
theorem dX10_isAhead_11 : decode cX10_isAhead 11 = .ok (.istore 4, 2) := by decide +kernel
theorem dX10_isAhead_13 : decode cX10_isAhead 13 = .ok (.iload_n 3, 1) := by decide +kernel
theorem dX10_isAhead_14 : decode cX10_isAhead 14 = .ok (.iload 4, 2) := by decide +kernel
theorem dX10_isAhead_16 : decode cX10_isAhead 16 = .ok (.if_icmp .eq 15, 3) := by decide +kernel
theorem dX10_isAhead_19 : decode cX10_isAhead 19 = .ok (.iload_n 3, 1) := by decide +kernel
theorem dX10_isAhead_20 : decode cX10_isAhead 20 = .ok (.iload 4, 2) := by decide +kernel
theorem dX10_isAhead_22 : decode cX10_isAhead 22 = .ok (.if_icmp .le 7, 3) := by decide +kernel
theorem dX10_isAhead_25 : decode cX10_isAhead 25 = .ok (.iconst 1, 1) := by decide +kernel
theorem dX10_isAhead_26 : decode cX10_isAhead 26 = .ok (.goto 4, 3) := by decide +kernel
theorem dX10_isAhead_29 : decode cX10_isAhead 29 = .ok (.iconst 0, 1) := by decide +kernel
theorem dX10_isAhead_30 : decode cX10_isAhead 30 = .ok (.ireturn, 1) := by decide +kernel
theorem dX10_isAhead_31 : decode cX10_isAhead 31 = .ok (.aload_n 0, 1) := by decide +kernel
theorem dX10_isAhead_32 : decode cX10_isAhead 32 = .ok (.iload_n 1, 1) := by decide +kernel
theorem dX10_isAhead_33 : decode cX10_isAhead 33 = .ok (.invokevirtual 188, 3) := by decide +kernel
theorem dX10_isAhead_36 : decode cX10_isAhead 36 = .ok (.aload_n 0, 1) := by decide +kernel
theorem dX10_isAhead_37 : decode cX10_isAhead 37 = .ok (.iload_n 2, 1) := by decide +kernel
theorem dX10_isAhead_38 : decode cX10_isAhead 38 = .ok (.invokevirtual 188, 3) := by decide +kernel
theorem dX10_isAhead_41 : decode cX10_isAhead 41 = .ok (.if_icmp .eq 22, 3) := by decide +kernel
theorem dX10_isAhead_44 : decode cX10_isAhead 44 = .ok (.aload_n 0, 1) := by decide +kernel
theorem dX10_isAhead_45 : decode cX10_isAhead 45 = .ok (.iload_n 1, 1) := by decide +kernel
theorem dX10_isAhead_46 : decode cX10_isAhead 46 = .ok (.invokevirtual 188, 3) := by decide +kernel
theorem dX10_isAhead_49 : decode cX10_isAhead 49 = .ok (.aload_n 0, 1) := by decide +kernel
theorem dX10_isAhead_50 : decode cX10_isAhead 50 = .ok (.iload_n 2, 1) := by decide +kernel
theorem dX10_isAhead_51 : decode cX10_isAhead 51 = .ok (.invokevirtual 188, 3) := by decide +kernel
theorem dX10_isAhead_54 : decode cX10_isAhead 54 = .ok (.if_icmp .le 7, 3) := by decide +kernel
theorem dX10_isAhead_57 : decode cX10_isAhead 57 = .ok (.iconst 1, 1) := by decide +kernel
theorem dX10_isAhead_58 : decode cX10_isAhead 58 = .ok (.goto 4, 3) := by decide +kernel
theorem dX10_isAhead_61 : decode cX10_isAhead 61 = .ok (.iconst 0, 1) := by decide +kernel
theorem dX10_isAhead_62 : decode cX10_isAhead 62 = .ok (.ireturn, 1) := by decide +kernel
theorem dX10_isAhead_63 : decode cX10_isAhead 63 = .ok (.aload_n 0, 1) := by decide +kernel
theorem dX10_isAhead_64 : decode cX10_isAhead 64 = .ok (.getfield 19, 3) := by decide +kernel
theorem dX10_isAhead_67 : decode cX10_isAhead 67 = .ok (.iconst 3, 1) := by decide +kernel
theorem dX10_isAhead_68 : decode cX10_isAhead 68 = .ok (.iload_n 1, 1) := by decide +kernel
theorem dX10_isAhead_69 : decode cX10_isAhead 69 = .ok (.imul, 1) := by decide +kernel
theorem dX10_isAhead_70 : decode cX10_isAhead 70 = .ok (.iconst 2, 1) := by decide +kernel
theorem dX10_isAhead_71 : decode cX10_isAhead 71 = .ok (.iadd, 1) := by decide +kernel
theorem dX10_isAhead_72 : decode cX10_isAhead 72 = .ok (.iaload, 1) := by decide +kernel
theorem dX10_isAhead_73 : decode cX10_isAhead 73 = .ok (.aload_n 0, 1) := by decide +kernel
theorem dX10_isAhead_74 : decode cX10_isAhead 74 = .ok (.getfield 19, 3) := by decide +kernel
theorem dX10_isAhead_77 : decode cX10_isAhead 77 = .ok (.iconst 3, 1) := by decide +kernel
theorem dX10_isAhead_78 : decode cX10_isAhead 78 = .ok (.iload_n 2, 1) := by decide +kernel
theorem dX10_isAhead_79 : decode cX10_isAhead 79 = .ok (.imul, 1) := by decide +kernel
theorem dX10_isAhead_80 : decode cX10_isAhead 80 = .ok (.iconst 2, 1) := by decide +kernel
theorem dX10_isAhead_81 : decode cX10_isAhead 81 = .ok (.iadd, 1) := by decide +kernel
theorem dX10_isAhead_82 : decode cX10_isAhead 82 = .ok (.iaload, 1) := by decide +kernel
theorem dX10_isAhead_83 : decode cX10_isAhead 83 = .ok (.if_icmp .eq 34, 3) := by decide +kernel
theorem dX10_isAhead_86 : decode cX10_isAhead 86 = .ok (.aload_n 0, 1) := by decide +kernel
theorem dX10_isAhead_87 : decode cX10_isAhead 87 = .ok (.getfield 19, 3) := by decide +kernel
theorem dX10_isAhead_90 : decode cX10_isAhead 90 = .ok (.iconst 3, 1) := by decide +kernel
theorem dX10_isAhead_91 : decode cX10_isAhead 91 = .ok (.iload_n 1, 1) := by decide +kernel
theorem dX10_isAhead_92 : decode cX10_isAhead 92 = .ok (.imul, 1) := by decide +kernel
theorem dX10_isAhead_93 : decode cX10_isAhead 93 = .ok (.iconst 2, 1) := by decide +kernel
theorem dX10_isAhead_94 : decode cX10_isAhead 94 = .ok (.iadd, 1) := by decide +kernel
theorem dX10_isAhead_95 : decode cX10_isAhead 95 = .ok (.iaload, 1) := by decide +kernel
theorem dX10_isAhead_96 : decode cX10_isAhead 96 = .ok (.aload_n 0, 1) := by decide +kernel
theorem dX10_isAhead_97 : decode cX10_isAhead 97 = .ok (.getfield 19, 3) := by decide +kernel
theorem dX10_isAhead_100 : decode cX10_isAhead 100 = .ok (.iconst 3, 1) := by decide +kernel
theorem dX10_isAhead_101 : decode cX10_isAhead 101 = .ok (.iload_n 2, 1) := by decide +kernel
theorem dX10_isAhead_102 : decode cX10_isAhead 102 = .ok (.imul, 1) := by decide +kernel
theorem dX10_isAhead_103 : decode cX10_isAhead 103 = .ok (.iconst 2, 1) := by decide +kernel
theorem dX10_isAhead_104 : decode cX10_isAhead 104 = .ok (.iadd, 1) := by decide +kernel
theorem dX10_isAhead_105 : decode cX10_isAhead 105 = .ok (.iaload, 1) := by decide +kernel
theorem dX10_isAhead_106 : decode cX10_isAhead 106 = .ok (.if_icmp .ge 7, 3) := by decide +kernel
theorem dX10_isAhead_109 : decode cX10_isAhead 109 = .ok (.iconst 1, 1) := by decide +kernel
theorem dX10_isAhead_110 : decode cX10_isAhead 110 = .ok (.goto 17, 3) := by decide +kernel
theorem dX10_isAhead_113 : decode cX10_isAhead 113 = .ok (.iconst 0, 1) := by decide +kernel
theorem dX10_isAhead_114 : decode cX10_isAhead 114 = .ok (.goto 13, 3) := by decide +kernel
theorem dX10_isAhead_117 : decode cX10_isAhead 117 = .ok (.iload_n 1, 1) := by decide +kernel
theorem dX10_isAhead_118 : decode cX10_isAhead 118 = .ok (.iload_n 2, 1) := by decide +kernel
theorem dX10_isAhead_119 : decode cX10_isAhead 119 = .ok (.if_icmp .ge 7, 3) := by decide +kernel
theorem dX10_isAhead_122 : decode cX10_isAhead 122 = .ok (.iconst 1, 1) := by decide +kernel
theorem dX10_isAhead_123 : decode cX10_isAhead 123 = .ok (.goto 4, 3) := by decide +kernel
theorem dX10_isAhead_126 : decode cX10_isAhead 126 = .ok (.iconst 0, 1) := by decide +kernel
theorem dX10_isAhead_127 : decode cX10_isAhead 127 = .ok (.ireturn, 1) := by decide +kernel
theorem dX10_ahead_0 : decode cX10_ahead 0 = .ok (.iload_n 1, 1) := by decide +kernel
theorem dX10_ahead_1 : decode cX10_ahead 1 = .ok (.ifCond .ge 5, 3) := by decide +kernel
theorem dX10_ahead_4 : decode cX10_ahead 4 = .ok (.iconst (-1), 1) := by decide +kernel
theorem dX10_ahead_5 : decode cX10_ahead 5 = .ok (.ireturn, 1) := by decide +kernel
theorem dX10_ahead_6 : decode cX10_ahead 6 = .ok (.aload_n 0, 1) := by decide +kernel
theorem dX10_ahead_7 : decode cX10_ahead 7 = .ok (.invokevirtual 151, 3) := by decide +kernel
theorem dX10_ahead_10 : decode cX10_ahead 10 = .ok (.iconst 0, 1) := by decide +kernel
theorem dX10_ahead_11 : decode cX10_ahead 11 = .ok (.istore_n 2, 1) := by decide +kernel
theorem dX10_ahead_12 : decode cX10_ahead 12 = .ok (.iload_n 2, 1) := by decide +kernel
theorem dX10_ahead_13 : decode cX10_ahead 13 = .ok (.aload_n 0, 1) := by decide +kernel
theorem dX10_ahead_14 : decode cX10_ahead 14 = .ok (.getfield 126, 3) := by decide +kernel
theorem dX10_ahead_17 : decode cX10_ahead 17 = .ok (.if_icmp .ge 77, 3) := by decide +kernel
theorem dX10_ahead_20 : decode cX10_ahead 20 = .ok (.iconst 0, 1) := by decide +kernel
theorem dX10_ahead_21 : decode cX10_ahead 21 = .ok (.istore_n 3, 1) := by decide +kernel
theorem dX10_ahead_22 : decode cX10_ahead 22 = .ok (.iconst 0, 1) := by decide +kernel
theorem dX10_ahead_23 : decode cX10_ahead 23 = .ok (.istore 4, 2) := by decide +kernel
theorem dX10_ahead_25 : decode cX10_ahead 25 = .ok (.iload 4, 2) := by decide +kernel
theorem dX10_ahead_27 : decode cX10_ahead 27 = .ok (.aload_n 0, 1) := by decide +kernel
theorem dX10_ahead_28 : decode cX10_ahead 28 = .ok (.getfield 126, 3) := by decide +kernel
theorem dX10_ahead_31 : decode cX10_ahead 31 = .ok (.if_icmp .ge 42, 3) := by decide +kernel
theorem dX10_ahead_34 : decode cX10_ahead 34 = .ok (.iload_n 3, 1) := by decide +kernel
theorem dX10_ahead_35 : decode cX10_ahead 35 = .ok (.iload 4, 2) := by decide +kernel
theorem dX10_ahead_37 : decode cX10_ahead 37 = .ok (.iload_n 2, 1) := by decide +kernel
theorem dX10_ahead_38 : decode cX10_ahead 38 = .ok (.if_icmp .eq 26, 3) := by decide +kernel
theorem dX10_ahead_41 : decode cX10_ahead 41 = .ok (.aload_n 0, 1) := by decide +kernel
theorem dX10_ahead_42 : decode cX10_ahead 42 = .ok (.iload 4, 2) := by decide +kernel
theorem dX10_ahead_44 : decode cX10_ahead 44 = .ok (.invokevirtual 182, 3) := by decide +kernel
theorem dX10_ahead_47 : decode cX10_ahead 47 = .ok (.ifCond .eq 17, 3) := by decide +kernel
theorem dX10_ahead_50 : decode cX10_ahead 50 = .ok (.aload_n 0, 1) := by decide +kernel
theorem dX10_ahead_51 : decode cX10_ahead 51 = .ok (.iload 4, 2) := by decide +kernel
theorem dX10_ahead_53 : decode cX10_ahead 53 = .ok (.iload_n 2, 1) := by decide +kernel
theorem dX10_ahead_54 : decode cX10_ahead 54 = .ok (.invokevirtual 191, 3) := by decide +kernel
theorem dX10_ahead_57 : decode cX10_ahead 57 = .ok (.ifCond .eq 7, 3) := by decide +kernel
theorem dX10_ahead_60 : decode cX10_ahead 60 = .ok (.iconst 1, 1) := by decide +kernel
theorem dX10_ahead_61 : decode cX10_ahead 61 = .ok (.goto 4, 3) := by decide +kernel
theorem dX10_ahead_64 : decode cX10_ahead 64 = .ok (.iconst 0, 1) := by decide +kernel
theorem dX10_ahead_65 : decode cX10_ahead 65 = .ok (.iadd, 1) := by decide +kernel
theorem dX10_ahead_66 : decode cX10_ahead 66 = .ok (.istore_n 3, 1) := by decide +kernel
theorem dX10_ahead_67 : decode cX10_ahead 67 = .ok (.iinc 4 1, 3) := by decide +kernel
theorem dX10_ahead_70 : decode cX10_ahead 70 = .ok (.goto (-45), 3) := by decide +kernel
theorem dX10_ahead_73 : decode cX10_ahead 73 = .ok (.aload_n 0, 1) := by decide +kernel
theorem dX10_ahead_74 : decode cX10_ahead 74 = .ok (.iload_n 2, 1) := by decide +kernel
theorem dX10_ahead_75 : decode cX10_ahead 75 = .ok (.invokevirtual 182, 3) := by decide +kernel
theorem dX10_ahead_78 : decode cX10_ahead 78 = .ok (.ifCond .eq 10, 3) := by decide +kernel
theorem dX10_ahead_81 : decode cX10_ahead 81 = .ok (.iload_n 3, 1) := by decide +kernel
theorem dX10_ahead_82 : decode cX10_ahead 82 = .ok (.iload_n 1, 1) := by decide +kernel
theorem dX10_ahead_83 : decode cX10_ahead 83 = .ok (.if_icmp .ne 5, 3) := by decide +kernel
theorem dX10_ahead_86 : decode cX10_ahead 86 = .ok (.iload_n 2, 1) := by decide +kernel
theorem dX10_ahead_87 : decode cX10_ahead 87 = .ok (.ireturn, 1) := by decide +kernel
theorem dX10_ahead_88 : decode cX10_ahead 88 = .ok (.iinc 2 1, 3) := by decide +kernel
theorem dX10_ahead_91 : decode cX10_ahead 91 = .ok (.goto (-79), 3) := by decide +kernel
theorem dX10_ahead_94 : decode cX10_ahead 94 = .ok (.bipush (-4), 2) := by decide +kernel
theorem dX10_ahead_96 : decode cX10_ahead 96 = .ok (.ireturn, 1) := by decide +kernel
theorem dX10_ones_0 : decode cX10_ones 0 = .ok (.iconst 0, 1) := by decide +kernel
theorem dX10_ones_1 : decode cX10_ones 1 = .ok (.istore_n 1, 1) := by decide +kernel
theorem dX10_ones_2 : decode cX10_ones 2 = .ok (.iload_n 0, 1) := by decide +kernel
theorem dX10_ones_3 : decode cX10_ones 3 = .ok (.istore_n 2, 1) := by decide +kernel
theorem dX10_ones_4 : decode cX10_ones 4 = .ok (.iload_n 2, 1) := by decide +kernel
theorem dX10_ones_5 : decode cX10_ones 5 = .ok (.ifCond .eq 15, 3) := by decide +kernel
theorem dX10_ones_8 : decode cX10_ones 8 = .ok (.iinc 1 1, 3) := by decide +kernel
theorem dX10_ones_11 : decode cX10_ones 11 = .ok (.iload_n 2, 1) := by decide +kernel
theorem dX10_ones_12 : decode cX10_ones 12 = .ok (.iload_n 2, 1) := by decide +kernel
theorem dX10_ones_13 : decode cX10_ones 13 = .ok (.iconst 1, 1) := by decide +kernel
theorem dX10_ones_14 : decode cX10_ones 14 = .ok (.isub, 1) := by decide +kernel
theorem dX10_ones_15 : decode cX10_ones 15 = .ok (.iand, 1) := by decide +kernel
theorem dX10_ones_16 : decode cX10_ones 16 = .ok (.istore_n 2, 1) := by decide +kernel
theorem dX10_ones_17 : decode cX10_ones 17 = .ok (.goto (-13), 3) := by decide +kernel
theorem dX10_ones_20 : decode cX10_ones 20 = .ok (.iload_n 1, 1) := by decide +kernel
theorem dX10_ones_21 : decode cX10_ones 21 = .ok (.ireturn, 1) := by decide +kernel
theorem dX10_promises_0 : decode cX10_promises 0 = .ok (.iload_n 1, 1) := by decide +kernel
theorem dX10_promises_1 : decode cX10_promises 1 = .ok (.invokestatic 83, 3) := by decide +kernel
theorem dX10_promises_4 : decode cX10_promises 4 = .ok (.ifCond .eq 11, 3) := by decide +kernel
theorem dX10_promises_7 : decode cX10_promises 7 = .ok (.aload_n 0, 1) := by decide +kernel
theorem dX10_promises_8 : decode cX10_promises 8 = .ok (.iload_n 2, 1) := by decide +kernel
theorem dX10_promises_9 : decode cX10_promises 9 = .ok (.invokevirtual 120, 3) := by decide +kernel
theorem dX10_promises_12 : decode cX10_promises 12 = .ok (.ifCond .ne 5, 3) := by decide +kernel
theorem dX10_promises_15 : decode cX10_promises 15 = .ok (.iconst (-1), 1) := by decide +kernel
theorem dX10_promises_16 : decode cX10_promises 16 = .ok (.ireturn, 1) := by decide +kernel
theorem dX10_promises_17 : decode cX10_promises 17 = .ok (.aload_n 0, 1) := by decide +kernel
theorem dX10_promises_18 : decode cX10_promises 18 = .ok (.invokevirtual 151, 3) := by decide +kernel
theorem dX10_promises_21 : decode cX10_promises 21 = .ok (.bipush (-4), 2) := by decide +kernel
theorem dX10_promises_23 : decode cX10_promises 23 = .ok (.istore_n 3, 1) := by decide +kernel
theorem dX10_promises_24 : decode cX10_promises 24 = .ok (.iconst 0, 1) := by decide +kernel
theorem dX10_promises_25 : decode cX10_promises 25 = .ok (.istore 4, 2) := by decide +kernel
theorem dX10_promises_27 : decode cX10_promises 27 = .ok (.iload 4, 2) := by decide +kernel
theorem dX10_promises_29 : decode cX10_promises 29 = .ok (.aload_n 0, 1) := by decide +kernel
theorem dX10_promises_30 : decode cX10_promises 30 = .ok (.getfield 77, 3) := by decide +kernel
theorem dX10_promises_33 : decode cX10_promises 33 = .ok (.if_icmp .ge 95, 3) := by decide +kernel
theorem dX10_promises_36 : decode cX10_promises 36 = .ok (.aload_n 0, 1) := by decide +kernel
theorem dX10_promises_37 : decode cX10_promises 37 = .ok (.getfield 16, 3) := by decide +kernel
theorem dX10_promises_40 : decode cX10_promises 40 = .ok (.bipush 8, 2) := by decide +kernel
theorem dX10_promises_42 : decode cX10_promises 42 = .ok (.iload 4, 2) := by decide +kernel
theorem dX10_promises_44 : decode cX10_promises 44 = .ok (.imul, 1) := by decide +kernel
theorem dX10_promises_45 : decode cX10_promises 45 = .ok (.bipush 7, 2) := by decide +kernel
theorem dX10_promises_47 : decode cX10_promises 47 = .ok (.iadd, 1) := by decide +kernel
theorem dX10_promises_48 : decode cX10_promises 48 = .ok (.iaload, 1) := by decide +kernel
theorem dX10_promises_49 : decode cX10_promises 49 = .ok (.istore 5, 2) := by decide +kernel
theorem dX10_promises_51 : decode cX10_promises 51 = .ok (.aload_n 0, 1) := by decide +kernel
theorem dX10_promises_52 : decode cX10_promises 52 = .ok (.getfield 16, 3) := by decide +kernel
theorem dX10_promises_55 : decode cX10_promises 55 = .ok (.bipush 8, 2) := by decide +kernel
theorem dX10_promises_57 : decode cX10_promises 57 = .ok (.iload 4, 2) := by decide +kernel
theorem dX10_promises_59 : decode cX10_promises 59 = .ok (.imul, 1) := by decide +kernel
theorem dX10_promises_60 : decode cX10_promises 60 = .ok (.iconst 2, 1) := by decide +kernel
theorem dX10_promises_61 : decode cX10_promises 61 = .ok (.iadd, 1) := by decide +kernel
theorem dX10_promises_62 : decode cX10_promises 62 = .ok (.iaload, 1) := by decide +kernel
theorem dX10_promises_63 : decode cX10_promises 63 = .ok (.iload_n 1, 1) := by decide +kernel
theorem dX10_promises_64 : decode cX10_promises 64 = .ok (.if_icmp .ne 58, 3) := by decide +kernel
theorem dX10_promises_67 : decode cX10_promises 67 = .ok (.aload_n 0, 1) := by decide +kernel
theorem dX10_promises_68 : decode cX10_promises 68 = .ok (.iload 4, 2) := by decide +kernel
theorem dX10_promises_70 : decode cX10_promises 70 = .ok (.invokevirtual 154, 3) := by decide +kernel
theorem dX10_promises_73 : decode cX10_promises 73 = .ok (.iload_n 2, 1) := by decide +kernel
theorem dX10_promises_74 : decode cX10_promises 74 = .ok (.ishr, 1) := by decide +kernel
theorem dX10_promises_75 : decode cX10_promises 75 = .ok (.iconst 1, 1) := by decide +kernel
theorem dX10_promises_76 : decode cX10_promises 76 = .ok (.iand, 1) := by decide +kernel
theorem dX10_promises_77 : decode cX10_promises 77 = .ok (.iconst 1, 1) := by decide +kernel
theorem dX10_promises_78 : decode cX10_promises 78 = .ok (.if_icmp .ne 44, 3) := by decide +kernel
theorem dX10_promises_81 : decode cX10_promises 81 = .ok (.iload_n 3, 1) := by decide +kernel
theorem dX10_promises_82 : decode cX10_promises 82 = .ok (.ifCond .lt 33, 3) := by decide +kernel
theorem dX10_promises_85 : decode cX10_promises 85 = .ok (.iload 5, 2) := by decide +kernel
theorem dX10_promises_87 : decode cX10_promises 87 = .ok (.invokestatic 194, 3) := by decide +kernel
theorem dX10_promises_90 : decode cX10_promises 90 = .ok (.iload_n 3, 1) := by decide +kernel
theorem dX10_promises_91 : decode cX10_promises 91 = .ok (.invokestatic 194, 3) := by decide +kernel
theorem dX10_promises_94 : decode cX10_promises 94 = .ok (.if_icmp .lt 21, 3) := by decide +kernel
theorem dX10_promises_97 : decode cX10_promises 97 = .ok (.iload 5, 2) := by decide +kernel
theorem dX10_promises_99 : decode cX10_promises 99 = .ok (.invokestatic 194, 3) := by decide +kernel
theorem dX10_promises_102 : decode cX10_promises 102 = .ok (.iload_n 3, 1) := by decide +kernel
theorem dX10_promises_103 : decode cX10_promises 103 = .ok (.invokestatic 194, 3) := by decide +kernel
theorem dX10_promises_106 : decode cX10_promises 106 = .ok (.if_icmp .ne 14, 3) := by decide +kernel
theorem dX10_promises_109 : decode cX10_promises 109 = .ok (.iload 5, 2) := by decide +kernel
theorem dX10_promises_111 : decode cX10_promises 111 = .ok (.iload_n 3, 1) := by decide +kernel
theorem dX10_promises_112 : decode cX10_promises 112 = .ok (.if_icmp .ge 8, 3) := by decide +kernel
theorem dX10_promises_115 : decode cX10_promises 115 = .ok (.iload 5, 2) := by decide +kernel
theorem dX10_promises_117 : decode cX10_promises 117 = .ok (.goto 4, 3) := by decide +kernel
theorem dX10_promises_120 : decode cX10_promises 120 = .ok (.iload_n 3, 1) := by decide +kernel
theorem dX10_promises_121 : decode cX10_promises 121 = .ok (.istore_n 3, 1) := by decide +kernel
theorem dX10_promises_122 : decode cX10_promises 122 = .ok (.iinc 4 1, 3) := by decide +kernel
theorem dX10_promises_125 : decode cX10_promises 125 = .ok (.goto (-98), 3) := by decide +kernel
theorem dX10_promises_128 : decode cX10_promises 128 = .ok (.iload_n 3, 1) := by decide +kernel
theorem dX10_promises_129 : decode cX10_promises 129 = .ok (.ireturn, 1) := by decide +kernel
theorem dX10_canFollow_0 : decode cX10_canFollow 0 = .ok (.aload_n 0, 1) := by decide +kernel
theorem dX10_canFollow_1 : decode cX10_canFollow 1 = .ok (.getfield 16, 3) := by decide +kernel
theorem dX10_canFollow_4 : decode cX10_canFollow 4 = .ok (.bipush 8, 2) := by decide +kernel
theorem dX10_canFollow_6 : decode cX10_canFollow 6 = .ok (.iload_n 1, 1) := by decide +kernel
theorem dX10_canFollow_7 : decode cX10_canFollow 7 = .ok (.imul, 1) := by decide +kernel
theorem dX10_canFollow_8 : decode cX10_canFollow 8 = .ok (.iconst 1, 1) := by decide +kernel
theorem dX10_canFollow_9 : decode cX10_canFollow 9 = .ok (.iadd, 1) := by decide +kernel
theorem dX10_canFollow_10 : decode cX10_canFollow 10 = .ok (.iaload, 1) := by decide +kernel
theorem dX10_canFollow_11 : decode cX10_canFollow 11 = .ok (.iload_n 3, 1) := by decide +kernel
theorem dX10_canFollow_12 : decode cX10_canFollow 12 = .ok (.if_icmp .ne 32, 3) := by decide +kernel
theorem dX10_canFollow_15 : decode cX10_canFollow 15 = .ok (.aload_n 0, 1) := by decide +kernel
theorem dX10_canFollow_16 : decode cX10_canFollow 16 = .ok (.iload_n 1, 1) := by decide +kernel
theorem dX10_canFollow_17 : decode cX10_canFollow 17 = .ok (.iload_n 2, 1) := by decide +kernel
theorem dX10_canFollow_18 : decode cX10_canFollow 18 = .ok (.invokevirtual 138, 3) := by decide +kernel
theorem dX10_canFollow_21 : decode cX10_canFollow 21 = .ok (.ifCond .eq 23, 3) := by decide +kernel
theorem dX10_canFollow_24 : decode cX10_canFollow 24 = .ok (.aload_n 0, 1) := by decide +kernel
theorem dX10_canFollow_25 : decode cX10_canFollow 25 = .ok (.iload_n 1, 1) := by decide +kernel
theorem dX10_canFollow_26 : decode cX10_canFollow 26 = .ok (.iload_n 2, 1) := by decide +kernel
theorem dX10_canFollow_27 : decode cX10_canFollow 27 = .ok (.iload 4, 2) := by decide +kernel
theorem dX10_canFollow_29 : decode cX10_canFollow 29 = .ok (.iload 5, 2) := by decide +kernel
theorem dX10_canFollow_31 : decode cX10_canFollow 31 = .ok (.sipush 255, 3) := by decide +kernel
theorem dX10_canFollow_34 : decode cX10_canFollow 34 = .ok (.invokevirtual 144, 3) := by decide +kernel
theorem dX10_canFollow_37 : decode cX10_canFollow 37 = .ok (.ifCond .eq 7, 3) := by decide +kernel
theorem dX10_canFollow_40 : decode cX10_canFollow 40 = .ok (.iconst 1, 1) := by decide +kernel
theorem dX10_canFollow_41 : decode cX10_canFollow 41 = .ok (.goto 4, 3) := by decide +kernel
theorem dX10_canFollow_44 : decode cX10_canFollow 44 = .ok (.iconst 0, 1) := by decide +kernel
theorem dX10_canFollow_45 : decode cX10_canFollow 45 = .ok (.ireturn, 1) := by decide +kernel
theorem dX10_mended_0 : decode cX10_mended 0 = .ok (.iload_n 1, 1) := by decide +kernel
theorem dX10_mended_1 : decode cX10_mended 1 = .ok (.invokestatic 83, 3) := by decide +kernel
theorem dX10_mended_4 : decode cX10_mended 4 = .ok (.ifCond .eq 11, 3) := by decide +kernel
theorem dX10_mended_7 : decode cX10_mended 7 = .ok (.aload_n 0, 1) := by decide +kernel
theorem dX10_mended_8 : decode cX10_mended 8 = .ok (.iload_n 2, 1) := by decide +kernel
theorem dX10_mended_9 : decode cX10_mended 9 = .ok (.invokevirtual 120, 3) := by decide +kernel
theorem dX10_mended_12 : decode cX10_mended 12 = .ok (.ifCond .ne 5, 3) := by decide +kernel
theorem dX10_mended_15 : decode cX10_mended 15 = .ok (.iconst (-1), 1) := by decide +kernel
theorem dX10_mended_16 : decode cX10_mended 16 = .ok (.ireturn, 1) := by decide +kernel
theorem dX10_mended_17 : decode cX10_mended 17 = .ok (.aload_n 0, 1) := by decide +kernel
theorem dX10_mended_18 : decode cX10_mended 18 = .ok (.getfield 22, 3) := by decide +kernel
theorem dX10_mended_21 : decode cX10_mended 21 = .ok (.iconst 5, 1) := by decide +kernel
theorem dX10_mended_22 : decode cX10_mended 22 = .ok (.iaload, 1) := by decide +kernel
theorem dX10_mended_23 : decode cX10_mended 23 = .ok (.iload_n 2, 1) := by decide +kernel
theorem dX10_mended_24 : decode cX10_mended 24 = .ok (.ishr, 1) := by decide +kernel
theorem dX10_mended_25 : decode cX10_mended 25 = .ok (.iconst 1, 1) := by decide +kernel
theorem dX10_mended_26 : decode cX10_mended 26 = .ok (.iand, 1) := by decide +kernel
theorem dX10_mended_27 : decode cX10_mended 27 = .ok (.ifCond .ne 6, 3) := by decide +kernel
theorem dX10_mended_30 : decode cX10_mended 30 = .ok (.bipush (-4), 2) := by decide +kernel
theorem dX10_mended_32 : decode cX10_mended 32 = .ok (.ireturn, 1) := by decide +kernel
theorem dX10_mended_33 : decode cX10_mended 33 = .ok (.iconst 0, 1) := by decide +kernel
theorem dX10_mended_34 : decode cX10_mended 34 = .ok (.istore_n 3, 1) := by decide +kernel
theorem dX10_mended_35 : decode cX10_mended 35 = .ok (.iload_n 3, 1) := by decide +kernel
theorem dX10_mended_36 : decode cX10_mended 36 = .ok (.aload_n 0, 1) := by decide +kernel
theorem dX10_mended_37 : decode cX10_mended 37 = .ok (.getfield 77, 3) := by decide +kernel
theorem dX10_mended_40 : decode cX10_mended 40 = .ok (.if_icmp .ge 57, 3) := by decide +kernel
theorem dX10_mended_43 : decode cX10_mended 43 = .ok (.aload_n 0, 1) := by decide +kernel
theorem dX10_mended_44 : decode cX10_mended 44 = .ok (.getfield 37, 3) := by decide +kernel
theorem dX10_mended_47 : decode cX10_mended 47 = .ok (.iload_n 3, 1) := by decide +kernel
theorem dX10_mended_48 : decode cX10_mended 48 = .ok (.aload_n 0, 1) := by decide +kernel
theorem dX10_mended_49 : decode cX10_mended 49 = .ok (.iload_n 3, 1) := by decide +kernel
theorem dX10_mended_50 : decode cX10_mended 50 = .ok (.iload_n 2, 1) := by decide +kernel
theorem dX10_mended_51 : decode cX10_mended 51 = .ok (.aload_n 0, 1) := by decide +kernel
theorem dX10_mended_52 : decode cX10_mended 52 = .ok (.getfield 22, 3) := by decide +kernel
theorem dX10_mended_55 : decode cX10_mended 55 = .ok (.iconst 1, 1) := by decide +kernel
theorem dX10_mended_56 : decode cX10_mended 56 = .ok (.iaload, 1) := by decide +kernel
theorem dX10_mended_57 : decode cX10_mended 57 = .ok (.aload_n 0, 1) := by decide +kernel
theorem dX10_mended_58 : decode cX10_mended 58 = .ok (.getfield 22, 3) := by decide +kernel
theorem dX10_mended_61 : decode cX10_mended 61 = .ok (.iconst 3, 1) := by decide +kernel
theorem dX10_mended_62 : decode cX10_mended 62 = .ok (.iaload, 1) := by decide +kernel
theorem dX10_mended_63 : decode cX10_mended 63 = .ok (.aload_n 0, 1) := by decide +kernel
theorem dX10_mended_64 : decode cX10_mended 64 = .ok (.getfield 22, 3) := by decide +kernel
theorem dX10_mended_67 : decode cX10_mended 67 = .ok (.iconst 4, 1) := by decide +kernel
theorem dX10_mended_68 : decode cX10_mended 68 = .ok (.iaload, 1) := by decide +kernel
theorem dX10_mended_69 : decode cX10_mended 69 = .ok (.invokevirtual 197, 3) := by decide +kernel
theorem dX10_mended_72 : decode cX10_mended 72 = .ok (.ifCond .eq 15, 3) := by decide +kernel
theorem dX10_mended_75 : decode cX10_mended 75 = .ok (.aload_n 0, 1) := by decide +kernel
theorem dX10_mended_76 : decode cX10_mended 76 = .ok (.iload_n 3, 1) := by decide +kernel
theorem dX10_mended_77 : decode cX10_mended 77 = .ok (.iload_n 2, 1) := by decide +kernel
theorem dX10_mended_78 : decode cX10_mended 78 = .ok (.invokevirtual 141, 3) := by decide +kernel
theorem dX10_mended_81 : decode cX10_mended 81 = .ok (.invokestatic 194, 3) := by decide +kernel
theorem dX10_mended_84 : decode cX10_mended 84 = .ok (.goto 6, 3) := by decide +kernel
theorem dX10_mended_87 : decode cX10_mended 87 = .ok (.sipush 9999, 3) := by decide +kernel
theorem dX10_mended_90 : decode cX10_mended 90 = .ok (.iastore, 1) := by decide +kernel
theorem dX10_mended_91 : decode cX10_mended 91 = .ok (.iinc 3 1, 3) := by decide +kernel
theorem dX10_mended_94 : decode cX10_mended 94 = .ok (.goto (-59), 3) := by decide +kernel
theorem dX10_mended_97 : decode cX10_mended 97 = .ok (.iconst 0, 1) := by decide +kernel
theorem dX10_mended_98 : decode cX10_mended 98 = .ok (.istore_n 3, 1) := by decide +kernel
theorem dX10_mended_99 : decode cX10_mended 99 = .ok (.iload_n 3, 1) := by decide +kernel
theorem dX10_mended_100 : decode cX10_mended 100 = .ok (.aload_n 0, 1) := by decide +kernel
theorem dX10_mended_101 : decode cX10_mended 101 = .ok (.getfield 77, 3) := by decide +kernel
theorem dX10_mended_104 : decode cX10_mended 104 = .ok (.if_icmp .ge 178, 3) := by decide +kernel
theorem dX10_mended_107 : decode cX10_mended 107 = .ok (.iconst 0, 1) := by decide +kernel
theorem dX10_mended_108 : decode cX10_mended 108 = .ok (.istore 4, 2) := by decide +kernel
theorem dX10_mended_110 : decode cX10_mended 110 = .ok (.iload 4, 2) := by decide +kernel
theorem dX10_mended_112 : decode cX10_mended 112 = .ok (.aload_n 0, 1) := by decide +kernel
theorem dX10_mended_113 : decode cX10_mended 113 = .ok (.getfield 77, 3) := by decide +kernel
theorem dX10_mended_116 : decode cX10_mended 116 = .ok (.if_icmp .ge 160, 3) := by decide +kernel
theorem dX10_mended_119 : decode cX10_mended 119 = .ok (.aload_n 0, 1) := by decide +kernel
theorem dX10_mended_120 : decode cX10_mended 120 = .ok (.getfield 16, 3) := by decide +kernel
theorem dX10_mended_123 : decode cX10_mended 123 = .ok (.bipush 8, 2) := by decide +kernel
theorem dX10_mended_125 : decode cX10_mended 125 = .ok (.iload 4, 2) := by decide +kernel
theorem dX10_mended_127 : decode cX10_mended 127 = .ok (.imul, 1) := by decide +kernel
theorem dX10_mended_128 : decode cX10_mended 128 = .ok (.bipush 7, 2) := by decide +kernel
theorem dX10_mended_130 : decode cX10_mended 130 = .ok (.iadd, 1) := by decide +kernel
theorem dX10_mended_131 : decode cX10_mended 131 = .ok (.iaload, 1) := by decide +kernel
theorem dX10_mended_132 : decode cX10_mended 132 = .ok (.istore 5, 2) := by decide +kernel
theorem dX10_mended_134 : decode cX10_mended 134 = .ok (.iconst 0, 1) := by decide +kernel
theorem dX10_mended_135 : decode cX10_mended 135 = .ok (.istore 6, 2) := by decide +kernel
theorem dX10_mended_137 : decode cX10_mended 137 = .ok (.iload 6, 2) := by decide +kernel
theorem dX10_mended_139 : decode cX10_mended 139 = .ok (.aload_n 0, 1) := by decide +kernel
theorem dX10_mended_140 : decode cX10_mended 140 = .ok (.getfield 77, 3) := by decide +kernel
theorem dX10_mended_143 : decode cX10_mended 143 = .ok (.if_icmp .ge 127, 3) := by decide +kernel
theorem dX10_mended_146 : decode cX10_mended 146 = .ok (.aload_n 0, 1) := by decide +kernel
theorem dX10_mended_147 : decode cX10_mended 147 = .ok (.getfield 37, 3) := by decide +kernel
theorem dX10_mended_150 : decode cX10_mended 150 = .ok (.iload 4, 2) := by decide +kernel
theorem dX10_mended_152 : decode cX10_mended 152 = .ok (.iaload, 1) := by decide +kernel
theorem dX10_mended_153 : decode cX10_mended 153 = .ok (.sipush 9999, 3) := by decide +kernel
theorem dX10_mended_156 : decode cX10_mended 156 = .ok (.if_icmp .ge 114, 3) := by decide +kernel
theorem dX10_mended_159 : decode cX10_mended 159 = .ok (.aload_n 0, 1) := by decide +kernel
theorem dX10_mended_160 : decode cX10_mended 160 = .ok (.iload 6, 2) := by decide +kernel
theorem dX10_mended_162 : decode cX10_mended 162 = .ok (.iload_n 2, 1) := by decide +kernel
theorem dX10_mended_163 : decode cX10_mended 163 = .ok (.aload_n 0, 1) := by decide +kernel
theorem dX10_mended_164 : decode cX10_mended 164 = .ok (.getfield 16, 3) := by decide +kernel
theorem dX10_mended_167 : decode cX10_mended 167 = .ok (.bipush 8, 2) := by decide +kernel
theorem dX10_mended_169 : decode cX10_mended 169 = .ok (.iload 4, 2) := by decide +kernel
theorem dX10_mended_171 : decode cX10_mended 171 = .ok (.imul, 1) := by decide +kernel
theorem dX10_mended_172 : decode cX10_mended 172 = .ok (.iconst 2, 1) := by decide +kernel
theorem dX10_mended_173 : decode cX10_mended 173 = .ok (.iadd, 1) := by decide +kernel
theorem dX10_mended_174 : decode cX10_mended 174 = .ok (.iaload, 1) := by decide +kernel
theorem dX10_mended_175 : decode cX10_mended 175 = .ok (.iload 5, 2) := by decide +kernel
theorem dX10_mended_177 : decode cX10_mended 177 = .ok (.iconst 1, 1) := by decide +kernel
theorem dX10_mended_178 : decode cX10_mended 178 = .ok (.iand, 1) := by decide +kernel
theorem dX10_mended_179 : decode cX10_mended 179 = .ok (.iload 5, 2) := by decide +kernel
theorem dX10_mended_181 : decode cX10_mended 181 = .ok (.iconst 4, 1) := by decide +kernel
theorem dX10_mended_182 : decode cX10_mended 182 = .ok (.iand, 1) := by decide +kernel
theorem dX10_mended_183 : decode cX10_mended 183 = .ok (.ifCond .eq 18, 3) := by decide +kernel
theorem dX10_mended_186 : decode cX10_mended 186 = .ok (.aload_n 0, 1) := by decide +kernel
theorem dX10_mended_187 : decode cX10_mended 187 = .ok (.getfield 16, 3) := by decide +kernel
theorem dX10_mended_190 : decode cX10_mended 190 = .ok (.bipush 8, 2) := by decide +kernel
theorem dX10_mended_192 : decode cX10_mended 192 = .ok (.iload 4, 2) := by decide +kernel
theorem dX10_mended_194 : decode cX10_mended 194 = .ok (.imul, 1) := by decide +kernel
theorem dX10_mended_195 : decode cX10_mended 195 = .ok (.iconst 1, 1) := by decide +kernel
theorem dX10_mended_196 : decode cX10_mended 196 = .ok (.iadd, 1) := by decide +kernel
theorem dX10_mended_197 : decode cX10_mended 197 = .ok (.iaload, 1) := by decide +kernel
theorem dX10_mended_198 : decode cX10_mended 198 = .ok (.goto 5, 3) := by decide +kernel
theorem dX10_mended_201 : decode cX10_mended 201 = .ok (.bipush (-4), 2) := by decide +kernel
theorem dX10_mended_203 : decode cX10_mended 203 = .ok (.invokevirtual 197, 3) := by decide +kernel
theorem dX10_mended_206 : decode cX10_mended 206 = .ok (.istore 7, 2) := by decide +kernel
theorem dX10_mended_208 : decode cX10_mended 208 = .ok (.aload_n 0, 1) := by decide +kernel
theorem dX10_mended_209 : decode cX10_mended 209 = .ok (.getfield 37, 3) := by decide +kernel
theorem dX10_mended_212 : decode cX10_mended 212 = .ok (.iload 4, 2) := by decide +kernel
theorem dX10_mended_214 : decode cX10_mended 214 = .ok (.iaload, 1) := by decide +kernel
theorem dX10_mended_215 : decode cX10_mended 215 = .ok (.aload_n 0, 1) := by decide +kernel
theorem dX10_mended_216 : decode cX10_mended 216 = .ok (.iload 6, 2) := by decide +kernel
theorem dX10_mended_218 : decode cX10_mended 218 = .ok (.iload_n 2, 1) := by decide +kernel
theorem dX10_mended_219 : decode cX10_mended 219 = .ok (.invokevirtual 141, 3) := by decide +kernel
theorem dX10_mended_222 : decode cX10_mended 222 = .ok (.invokestatic 194, 3) := by decide +kernel
theorem dX10_mended_225 : decode cX10_mended 225 = .ok (.iadd, 1) := by decide +kernel
theorem dX10_mended_226 : decode cX10_mended 226 = .ok (.istore 8, 2) := by decide +kernel
theorem dX10_mended_228 : decode cX10_mended 228 = .ok (.aload_n 0, 1) := by decide +kernel
theorem dX10_mended_229 : decode cX10_mended 229 = .ok (.getfield 37, 3) := by decide +kernel
theorem dX10_mended_232 : decode cX10_mended 232 = .ok (.iload 6, 2) := by decide +kernel
theorem dX10_mended_234 : decode cX10_mended 234 = .ok (.iload 7, 2) := by decide +kernel
theorem dX10_mended_236 : decode cX10_mended 236 = .ok (.ifCond .eq 20, 3) := by decide +kernel
theorem dX10_mended_239 : decode cX10_mended 239 = .ok (.iload 8, 2) := by decide +kernel
theorem dX10_mended_241 : decode cX10_mended 241 = .ok (.aload_n 0, 1) := by decide +kernel
theorem dX10_mended_242 : decode cX10_mended 242 = .ok (.getfield 37, 3) := by decide +kernel
theorem dX10_mended_245 : decode cX10_mended 245 = .ok (.iload 6, 2) := by decide +kernel
theorem dX10_mended_247 : decode cX10_mended 247 = .ok (.iaload, 1) := by decide +kernel
theorem dX10_mended_248 : decode cX10_mended 248 = .ok (.if_icmp .ge 8, 3) := by decide +kernel
theorem dX10_mended_251 : decode cX10_mended 251 = .ok (.iload 8, 2) := by decide +kernel
theorem dX10_mended_253 : decode cX10_mended 253 = .ok (.goto 10, 3) := by decide +kernel
theorem dX10_mended_256 : decode cX10_mended 256 = .ok (.aload_n 0, 1) := by decide +kernel
theorem dX10_mended_257 : decode cX10_mended 257 = .ok (.getfield 37, 3) := by decide +kernel
theorem dX10_mended_260 : decode cX10_mended 260 = .ok (.iload 6, 2) := by decide +kernel
theorem dX10_mended_262 : decode cX10_mended 262 = .ok (.iaload, 1) := by decide +kernel
theorem dX10_mended_263 : decode cX10_mended 263 = .ok (.iastore, 1) := by decide +kernel
theorem dX10_mended_264 : decode cX10_mended 264 = .ok (.iinc 6 1, 3) := by decide +kernel
theorem dX10_mended_267 : decode cX10_mended 267 = .ok (.goto (-130), 3) := by decide +kernel
theorem dX10_mended_270 : decode cX10_mended 270 = .ok (.iinc 4 1, 3) := by decide +kernel
theorem dX10_mended_273 : decode cX10_mended 273 = .ok (.goto (-163), 3) := by decide +kernel
theorem dX10_mended_276 : decode cX10_mended 276 = .ok (.iinc 3 1, 3) := by decide +kernel
theorem dX10_mended_279 : decode cX10_mended 279 = .ok (.goto (-180), 3) := by decide +kernel
theorem dX10_mended_282 : decode cX10_mended 282 = .ok (.aload_n 0, 1) := by decide +kernel
theorem dX10_mended_283 : decode cX10_mended 283 = .ok (.iload_n 2, 1) := by decide +kernel
theorem dX10_mended_284 : decode cX10_mended 284 = .ok (.iload_n 1, 1) := by decide +kernel
theorem dX10_mended_285 : decode cX10_mended 285 = .ok (.sipush 255, 3) := by decide +kernel
theorem dX10_mended_288 : decode cX10_mended 288 = .ok (.invokevirtual 161, 3) := by decide +kernel
theorem dX10_mended_291 : decode cX10_mended 291 = .ok (.ifCond .ne 6, 3) := by decide +kernel
theorem dX10_mended_294 : decode cX10_mended 294 = .ok (.bipush (-4), 2) := by decide +kernel
theorem dX10_mended_296 : decode cX10_mended 296 = .ok (.ireturn, 1) := by decide +kernel
theorem dX10_mended_297 : decode cX10_mended 297 = .ok (.aload_n 0, 1) := by decide +kernel
theorem dX10_mended_298 : decode cX10_mended 298 = .ok (.getfield 22, 3) := by decide +kernel
theorem dX10_mended_301 : decode cX10_mended 301 = .ok (.iconst 1, 1) := by decide +kernel
theorem dX10_mended_302 : decode cX10_mended 302 = .ok (.iaload, 1) := by decide +kernel
theorem dX10_mended_303 : decode cX10_mended 303 = .ok (.iload_n 1, 1) := by decide +kernel
theorem dX10_mended_304 : decode cX10_mended 304 = .ok (.if_icmp .ne 7, 3) := by decide +kernel
theorem dX10_mended_307 : decode cX10_mended 307 = .ok (.iconst 0, 1) := by decide +kernel
theorem dX10_mended_308 : decode cX10_mended 308 = .ok (.goto 6, 3) := by decide +kernel
theorem dX10_mended_311 : decode cX10_mended 311 = .ok (.sipush 9999, 3) := by decide +kernel
theorem dX10_mended_314 : decode cX10_mended 314 = .ok (.istore_n 3, 1) := by decide +kernel
theorem dX10_mended_315 : decode cX10_mended 315 = .ok (.iconst 0, 1) := by decide +kernel
theorem dX10_mended_316 : decode cX10_mended 316 = .ok (.istore 4, 2) := by decide +kernel
theorem dX10_mended_318 : decode cX10_mended 318 = .ok (.iload 4, 2) := by decide +kernel
theorem dX10_mended_320 : decode cX10_mended 320 = .ok (.aload_n 0, 1) := by decide +kernel
theorem dX10_mended_321 : decode cX10_mended 321 = .ok (.getfield 77, 3) := by decide +kernel
theorem dX10_mended_324 : decode cX10_mended 324 = .ok (.if_icmp .ge 48, 3) := by decide +kernel
theorem dX10_mended_327 : decode cX10_mended 327 = .ok (.aload_n 0, 1) := by decide +kernel
theorem dX10_mended_328 : decode cX10_mended 328 = .ok (.getfield 16, 3) := by decide +kernel
theorem dX10_mended_331 : decode cX10_mended 331 = .ok (.bipush 8, 2) := by decide +kernel
theorem dX10_mended_333 : decode cX10_mended 333 = .ok (.iload 4, 2) := by decide +kernel
theorem dX10_mended_335 : decode cX10_mended 335 = .ok (.imul, 1) := by decide +kernel
theorem dX10_mended_336 : decode cX10_mended 336 = .ok (.iconst 2, 1) := by decide +kernel
theorem dX10_mended_337 : decode cX10_mended 337 = .ok (.iadd, 1) := by decide +kernel
theorem dX10_mended_338 : decode cX10_mended 338 = .ok (.iaload, 1) := by decide +kernel
theorem dX10_mended_339 : decode cX10_mended 339 = .ok (.iload_n 1, 1) := by decide +kernel
theorem dX10_mended_340 : decode cX10_mended 340 = .ok (.if_icmp .ne 24, 3) := by decide +kernel
theorem dX10_mended_343 : decode cX10_mended 343 = .ok (.aload_n 0, 1) := by decide +kernel
theorem dX10_mended_344 : decode cX10_mended 344 = .ok (.getfield 37, 3) := by decide +kernel
theorem dX10_mended_347 : decode cX10_mended 347 = .ok (.iload 4, 2) := by decide +kernel
theorem dX10_mended_349 : decode cX10_mended 349 = .ok (.iaload, 1) := by decide +kernel
theorem dX10_mended_350 : decode cX10_mended 350 = .ok (.iload_n 3, 1) := by decide +kernel
theorem dX10_mended_351 : decode cX10_mended 351 = .ok (.if_icmp .ge 13, 3) := by decide +kernel
theorem dX10_mended_354 : decode cX10_mended 354 = .ok (.aload_n 0, 1) := by decide +kernel
theorem dX10_mended_355 : decode cX10_mended 355 = .ok (.getfield 37, 3) := by decide +kernel
theorem dX10_mended_358 : decode cX10_mended 358 = .ok (.iload 4, 2) := by decide +kernel
theorem dX10_mended_360 : decode cX10_mended 360 = .ok (.iaload, 1) := by decide +kernel
theorem dX10_mended_361 : decode cX10_mended 361 = .ok (.goto 4, 3) := by decide +kernel
theorem dX10_mended_364 : decode cX10_mended 364 = .ok (.iload_n 3, 1) := by decide +kernel
theorem dX10_mended_365 : decode cX10_mended 365 = .ok (.istore_n 3, 1) := by decide +kernel
theorem dX10_mended_366 : decode cX10_mended 366 = .ok (.iinc 4 1, 3) := by decide +kernel
theorem dX10_mended_369 : decode cX10_mended 369 = .ok (.goto (-51), 3) := by decide +kernel
theorem dX10_mended_372 : decode cX10_mended 372 = .ok (.iload_n 3, 1) := by decide +kernel
theorem dX10_mended_373 : decode cX10_mended 373 = .ok (.sipush 9999, 3) := by decide +kernel
theorem dX10_mended_376 : decode cX10_mended 376 = .ok (.if_icmp .ge 7, 3) := by decide +kernel
theorem dX10_mended_379 : decode cX10_mended 379 = .ok (.iload_n 3, 1) := by decide +kernel
theorem dX10_mended_380 : decode cX10_mended 380 = .ok (.goto 5, 3) := by decide +kernel
theorem dX10_mended_383 : decode cX10_mended 383 = .ok (.bipush (-4), 2) := by decide +kernel
theorem dX10_mended_385 : decode cX10_mended 385 = .ok (.ireturn, 1) := by decide +kernel
theorem dX10_part_0 : decode cX10_part 0 = .ok (.iload_n 1, 1) := by decide +kernel
theorem dX10_part_1 : decode cX10_part 1 = .ok (.invokestatic 83, 3) := by decide +kernel
theorem dX10_part_4 : decode cX10_part 4 = .ok (.ifCond .eq 25, 3) := by decide +kernel
theorem dX10_part_7 : decode cX10_part 7 = .ok (.iload_n 2, 1) := by decide +kernel
theorem dX10_part_8 : decode cX10_part 8 = .ok (.invokestatic 83, 3) := by decide +kernel
theorem dX10_part_11 : decode cX10_part 11 = .ok (.ifCond .eq 18, 3) := by decide +kernel
theorem dX10_part_14 : decode cX10_part 14 = .ok (.iload_n 1, 1) := by decide +kernel
theorem dX10_part_15 : decode cX10_part 15 = .ok (.iload_n 2, 1) := by decide +kernel
theorem dX10_part_16 : decode cX10_part 16 = .ok (.if_icmp .eq 13, 3) := by decide +kernel
theorem dX10_part_19 : decode cX10_part 19 = .ok (.iload_n 3, 1) := by decide +kernel
theorem dX10_part_20 : decode cX10_part 20 = .ok (.i2l, 1) := by decide +kernel
theorem dX10_part_21 : decode cX10_part 21 = .ok (.lconst 0, 1) := by decide +kernel
theorem dX10_part_22 : decode cX10_part 22 = .ok (.lconst 1, 1) := by decide +kernel
theorem dX10_part_23 : decode cX10_part 23 = .ok (.invokestatic 69, 3) := by decide +kernel
theorem dX10_part_26 : decode cX10_part 26 = .ok (.ifCond .ne 5, 3) := by decide +kernel
theorem dX10_part_29 : decode cX10_part 29 = .ok (.iconst (-1), 1) := by decide +kernel
theorem dX10_part_30 : decode cX10_part 30 = .ok (.ireturn, 1) := by decide +kernel
theorem dX10_part_31 : decode cX10_part 31 = .ok (.bipush (-4), 2) := by decide +kernel
theorem dX10_part_33 : decode cX10_part 33 = .ok (.istore 4, 2) := by decide +kernel
theorem dX10_part_35 : decode cX10_part 35 = .ok (.iconst 0, 1) := by decide +kernel
theorem dX10_part_36 : decode cX10_part 36 = .ok (.istore 5, 2) := by decide +kernel
theorem dX10_part_38 : decode cX10_part 38 = .ok (.bipush 63, 2) := by decide +kernel
theorem dX10_part_40 : decode cX10_part 40 = .ok (.istore 6, 2) := by decide +kernel
theorem dX10_part_42 : decode cX10_part 42 = .ok (.iload 6, 2) := by decide +kernel
theorem dX10_part_44 : decode cX10_part 44 = .ok (.ifCond .le 49, 3) := by decide +kernel
theorem dX10_part_47 : decode cX10_part 47 = .ok (.aload_n 0, 1) := by decide +kernel
theorem dX10_part_48 : decode cX10_part 48 = .ok (.iload 6, 2) := by decide +kernel
theorem dX10_part_50 : decode cX10_part 50 = .ok (.iload_n 1, 1) := by decide +kernel
theorem dX10_part_51 : decode cX10_part 51 = .ok (.invokevirtual 116, 3) := by decide +kernel
theorem dX10_part_54 : decode cX10_part 54 = .ok (.ifCond .eq 7, 3) := by decide +kernel
theorem dX10_part_57 : decode cX10_part 57 = .ok (.iconst 1, 1) := by decide +kernel
theorem dX10_part_58 : decode cX10_part 58 = .ok (.goto 4, 3) := by decide +kernel
theorem dX10_part_61 : decode cX10_part 61 = .ok (.iconst 0, 1) := by decide +kernel
theorem dX10_part_62 : decode cX10_part 62 = .ok (.aload_n 0, 1) := by decide +kernel
theorem dX10_part_63 : decode cX10_part 63 = .ok (.iload 6, 2) := by decide +kernel
theorem dX10_part_65 : decode cX10_part 65 = .ok (.iload_n 2, 1) := by decide +kernel
theorem dX10_part_66 : decode cX10_part 66 = .ok (.invokevirtual 116, 3) := by decide +kernel
theorem dX10_part_69 : decode cX10_part 69 = .ok (.ifCond .eq 7, 3) := by decide +kernel
theorem dX10_part_72 : decode cX10_part 72 = .ok (.iconst 1, 1) := by decide +kernel
theorem dX10_part_73 : decode cX10_part 73 = .ok (.goto 4, 3) := by decide +kernel
theorem dX10_part_76 : decode cX10_part 76 = .ok (.iconst 0, 1) := by decide +kernel
theorem dX10_part_77 : decode cX10_part 77 = .ok (.if_icmp .eq 10, 3) := by decide +kernel
theorem dX10_part_80 : decode cX10_part 80 = .ok (.iload 6, 2) := by decide +kernel
theorem dX10_part_82 : decode cX10_part 82 = .ok (.istore 4, 2) := by decide +kernel
theorem dX10_part_84 : decode cX10_part 84 = .ok (.iinc 5 1, 3) := by decide +kernel
theorem dX10_part_87 : decode cX10_part 87 = .ok (.iinc 6 (-1), 3) := by decide +kernel
theorem dX10_part_90 : decode cX10_part 90 = .ok (.goto (-48), 3) := by decide +kernel
theorem dX10_part_93 : decode cX10_part 93 = .ok (.iload_n 3, 1) := by decide +kernel
theorem dX10_part_94 : decode cX10_part 94 = .ok (.ifCond .ne 8, 3) := by decide +kernel
theorem dX10_part_97 : decode cX10_part 97 = .ok (.iload 4, 2) := by decide +kernel
theorem dX10_part_99 : decode cX10_part 99 = .ok (.goto 5, 3) := by decide +kernel
theorem dX10_part_102 : decode cX10_part 102 = .ok (.iload 5, 2) := by decide +kernel
theorem dX10_part_104 : decode cX10_part 104 = .ok (.ireturn, 1) := by decide +kernel
theorem dX10_type_0 : decode cX10_type 0 = .ok (.iload_n 3, 1) := by decide +kernel
theorem dX10_type_1 : decode cX10_type 1 = .ok (.i2l, 1) := by decide +kernel
theorem dX10_type_2 : decode cX10_type 2 = .ok (.lconst 1, 1) := by decide +kernel
theorem dX10_type_3 : decode cX10_type 3 = .ok (.ldc2_w 200, 3) := by decide +kernel
theorem dX10_type_6 : decode cX10_type 6 = .ok (.invokestatic 69, 3) := by decide +kernel
theorem dX10_type_9 : decode cX10_type 9 = .ok (.ifCond .ne 5, 3) := by decide +kernel
theorem dX10_type_12 : decode cX10_type 12 = .ok (.iconst (-1), 1) := by decide +kernel
theorem dX10_type_13 : decode cX10_type 13 = .ok (.ireturn, 1) := by decide +kernel
theorem dX10_type_14 : decode cX10_type 14 = .ok (.iload_n 3, 1) := by decide +kernel
theorem dX10_type_15 : decode cX10_type 15 = .ok (.iconst 1, 1) := by decide +kernel
theorem dX10_type_16 : decode cX10_type 16 = .ok (.isub, 1) := by decide +kernel
theorem dX10_type_17 : decode cX10_type 17 = .ok (.istore 4, 2) := by decide +kernel
theorem dX10_type_19 : decode cX10_type 19 = .ok (.iload 4, 2) := by decide +kernel
theorem dX10_type_21 : decode cX10_type 21 = .ok (.ifCond .lt 34, 3) := by decide +kernel
theorem dX10_type_24 : decode cX10_type 24 = .ok (.lload_n 1, 1) := by decide +kernel
theorem dX10_type_25 : decode cX10_type 25 = .ok (.bipush 8, 2) := by decide +kernel
theorem dX10_type_27 : decode cX10_type 27 = .ok (.iload 4, 2) := by decide +kernel
theorem dX10_type_29 : decode cX10_type 29 = .ok (.imul, 1) := by decide +kernel
theorem dX10_type_30 : decode cX10_type 30 = .ok (.lshr, 1) := by decide +kernel
theorem dX10_type_31 : decode cX10_type 31 = .ok (.ldc2_w 202, 3) := by decide +kernel
theorem dX10_type_34 : decode cX10_type 34 = .ok (.land, 1) := by decide +kernel
theorem dX10_type_35 : decode cX10_type 35 = .ok (.ldc2_w 204, 3) := by decide +kernel
theorem dX10_type_38 : decode cX10_type 38 = .ok (.ldc2_w 206, 3) := by decide +kernel
theorem dX10_type_41 : decode cX10_type 41 = .ok (.invokestatic 69, 3) := by decide +kernel
theorem dX10_type_44 : decode cX10_type 44 = .ok (.ifCond .ne 5, 3) := by decide +kernel
theorem dX10_type_47 : decode cX10_type 47 = .ok (.iconst (-1), 1) := by decide +kernel
theorem dX10_type_48 : decode cX10_type 48 = .ok (.ireturn, 1) := by decide +kernel
theorem dX10_type_49 : decode cX10_type 49 = .ok (.iinc 4 (-1), 3) := by decide +kernel
theorem dX10_type_52 : decode cX10_type 52 = .ok (.goto (-33), 3) := by decide +kernel
theorem dX10_type_55 : decode cX10_type 55 = .ok (.aload_n 0, 1) := by decide +kernel
theorem dX10_type_56 : decode cX10_type 56 = .ok (.getfield 208, 3) := by decide +kernel
theorem dX10_type_59 : decode cX10_type 59 = .ok (.iload_n 3, 1) := by decide +kernel
theorem dX10_type_60 : decode cX10_type 60 = .ok (.iadd, 1) := by decide +kernel
theorem dX10_type_61 : decode cX10_type 61 = .ok (.bipush 120, 2) := by decide +kernel
theorem dX10_type_63 : decode cX10_type 63 = .ok (.if_icmp .le 6, 3) := by decide +kernel
theorem dX10_type_66 : decode cX10_type 66 = .ok (.bipush (-3), 2) := by decide +kernel
theorem dX10_type_68 : decode cX10_type 68 = .ok (.ireturn, 1) := by decide +kernel
theorem dX10_type_69 : decode cX10_type 69 = .ok (.iload_n 3, 1) := by decide +kernel
theorem dX10_type_70 : decode cX10_type 70 = .ok (.iconst 1, 1) := by decide +kernel
theorem dX10_type_71 : decode cX10_type 71 = .ok (.isub, 1) := by decide +kernel
theorem dX10_type_72 : decode cX10_type 72 = .ok (.istore 4, 2) := by decide +kernel
theorem dX10_type_74 : decode cX10_type 74 = .ok (.iload 4, 2) := by decide +kernel
theorem dX10_type_76 : decode cX10_type 76 = .ok (.ifCond .lt 40, 3) := by decide +kernel
theorem dX10_type_79 : decode cX10_type 79 = .ok (.aload_n 0, 1) := by decide +kernel
theorem dX10_type_80 : decode cX10_type 80 = .ok (.getfield 40, 3) := by decide +kernel
theorem dX10_type_83 : decode cX10_type 83 = .ok (.aload_n 0, 1) := by decide +kernel
theorem dX10_type_84 : decode cX10_type 84 = .ok (.getfield 208, 3) := by decide +kernel
theorem dX10_type_87 : decode cX10_type 87 = .ok (.lload_n 1, 1) := by decide +kernel
theorem dX10_type_88 : decode cX10_type 88 = .ok (.bipush 8, 2) := by decide +kernel
theorem dX10_type_90 : decode cX10_type 90 = .ok (.iload 4, 2) := by decide +kernel
theorem dX10_type_92 : decode cX10_type 92 = .ok (.imul, 1) := by decide +kernel
theorem dX10_type_93 : decode cX10_type 93 = .ok (.lshr, 1) := by decide +kernel
theorem dX10_type_94 : decode cX10_type 94 = .ok (.ldc2_w 202, 3) := by decide +kernel
theorem dX10_type_97 : decode cX10_type 97 = .ok (.land, 1) := by decide +kernel
theorem dX10_type_98 : decode cX10_type 98 = .ok (.l2i, 1) := by decide +kernel
theorem dX10_type_99 : decode cX10_type 99 = .ok (.iastore, 1) := by decide +kernel
theorem dX10_type_100 : decode cX10_type 100 = .ok (.aload_n 0, 1) := by decide +kernel
theorem dX10_type_101 : decode cX10_type 101 = .ok (.dup, 1) := by decide +kernel
theorem dX10_type_102 : decode cX10_type 102 = .ok (.getfield 208, 3) := by decide +kernel
theorem dX10_type_105 : decode cX10_type 105 = .ok (.iconst 1, 1) := by decide +kernel
theorem dX10_type_106 : decode cX10_type 106 = .ok (.iadd, 1) := by decide +kernel
theorem dX10_type_107 : decode cX10_type 107 = .ok (.putfield 208, 3) := by decide +kernel
theorem dX10_type_110 : decode cX10_type 110 = .ok (.iinc 4 (-1), 3) := by decide +kernel
theorem dX10_type_113 : decode cX10_type 113 = .ok (.goto (-39), 3) := by decide +kernel
theorem dX10_type_116 : decode cX10_type 116 = .ok (.aload_n 0, 1) := by decide +kernel
theorem dX10_type_117 : decode cX10_type 117 = .ok (.getfield 208, 3) := by decide +kernel
theorem dX10_type_120 : decode cX10_type 120 = .ok (.ireturn, 1) := by decide +kernel
theorem dX10_next_0 : decode cX10_next 0 = .ok (.aload_n 0, 1) := by decide +kernel
theorem dX10_next_1 : decode cX10_next 1 = .ok (.getfield 211, 3) := by decide +kernel
theorem dX10_next_4 : decode cX10_next 4 = .ok (.aload_n 0, 1) := by decide +kernel
theorem dX10_next_5 : decode cX10_next 5 = .ok (.getfield 208, 3) := by decide +kernel
theorem dX10_next_8 : decode cX10_next 8 = .ok (.if_icmp .ge 30, 3) := by decide +kernel
theorem dX10_next_11 : decode cX10_next 11 = .ok (.aload_n 0, 1) := by decide +kernel
theorem dX10_next_12 : decode cX10_next 12 = .ok (.getfield 40, 3) := by decide +kernel
theorem dX10_next_15 : decode cX10_next 15 = .ok (.aload_n 0, 1) := by decide +kernel
theorem dX10_next_16 : decode cX10_next 16 = .ok (.getfield 211, 3) := by decide +kernel
theorem dX10_next_19 : decode cX10_next 19 = .ok (.iaload, 1) := by decide +kernel
theorem dX10_next_20 : decode cX10_next 20 = .ok (.bipush 32, 2) := by decide +kernel
theorem dX10_next_22 : decode cX10_next 22 = .ok (.if_icmp .ne 16, 3) := by decide +kernel
theorem dX10_next_25 : decode cX10_next 25 = .ok (.aload_n 0, 1) := by decide +kernel
theorem dX10_next_26 : decode cX10_next 26 = .ok (.dup, 1) := by decide +kernel
theorem dX10_next_27 : decode cX10_next 27 = .ok (.getfield 211, 3) := by decide +kernel
theorem dX10_next_30 : decode cX10_next 30 = .ok (.iconst 1, 1) := by decide +kernel
theorem dX10_next_31 : decode cX10_next 31 = .ok (.iadd, 1) := by decide +kernel
theorem dX10_next_32 : decode cX10_next 32 = .ok (.putfield 211, 3) := by decide +kernel
theorem dX10_next_35 : decode cX10_next 35 = .ok (.goto (-35), 3) := by decide +kernel
theorem dX10_next_38 : decode cX10_next 38 = .ok (.aload_n 0, 1) := by decide +kernel
theorem dX10_next_39 : decode cX10_next 39 = .ok (.getfield 211, 3) := by decide +kernel
theorem dX10_next_42 : decode cX10_next 42 = .ok (.aload_n 0, 1) := by decide +kernel
theorem dX10_next_43 : decode cX10_next 43 = .ok (.getfield 208, 3) := by decide +kernel
theorem dX10_next_46 : decode cX10_next 46 = .ok (.if_icmp .ge 15, 3) := by decide +kernel
theorem dX10_next_49 : decode cX10_next 49 = .ok (.aload_n 0, 1) := by decide +kernel
theorem dX10_next_50 : decode cX10_next 50 = .ok (.getfield 40, 3) := by decide +kernel
theorem dX10_next_53 : decode cX10_next 53 = .ok (.aload_n 0, 1) := by decide +kernel
theorem dX10_next_54 : decode cX10_next 54 = .ok (.getfield 211, 3) := by decide +kernel
theorem dX10_next_57 : decode cX10_next 57 = .ok (.iaload, 1) := by decide +kernel
theorem dX10_next_58 : decode cX10_next 58 = .ok (.goto 4, 3) := by decide +kernel
theorem dX10_next_61 : decode cX10_next 61 = .ok (.iconst (-1), 1) := by decide +kernel
theorem dX10_next_62 : decode cX10_next 62 = .ok (.ireturn, 1) := by decide +kernel
theorem dX10_takes_0 : decode cX10_takes 0 = .ok (.aload_n 0, 1) := by decide +kernel
theorem dX10_takes_1 : decode cX10_takes 1 = .ok (.invokevirtual 214, 3) := by decide +kernel
theorem dX10_takes_4 : decode cX10_takes 4 = .ok (.iload_n 1, 1) := by decide +kernel
theorem dX10_takes_5 : decode cX10_takes 5 = .ok (.if_icmp .ne 7, 3) := by decide +kernel
theorem dX10_takes_8 : decode cX10_takes 8 = .ok (.iconst 1, 1) := by decide +kernel
theorem dX10_takes_9 : decode cX10_takes 9 = .ok (.goto 4, 3) := by decide +kernel
theorem dX10_takes_12 : decode cX10_takes 12 = .ok (.iconst 0, 1) := by decide +kernel
theorem dX10_takes_13 : decode cX10_takes 13 = .ok (.istore_n 2, 1) := by decide +kernel
theorem dX10_takes_14 : decode cX10_takes 14 = .ok (.aload_n 0, 1) := by decide +kernel
theorem dX10_takes_15 : decode cX10_takes 15 = .ok (.dup, 1) := by decide +kernel
theorem dX10_takes_16 : decode cX10_takes 16 = .ok (.getfield 211, 3) := by decide +kernel
theorem dX10_takes_19 : decode cX10_takes 19 = .ok (.iload_n 2, 1) := by decide +kernel
theorem dX10_takes_20 : decode cX10_takes 20 = .ok (.ifCond .eq 7, 3) := by decide +kernel
theorem dX10_takes_23 : decode cX10_takes 23 = .ok (.iconst 1, 1) := by decide +kernel
theorem dX10_takes_24 : decode cX10_takes 24 = .ok (.goto 4, 3) := by decide +kernel
theorem dX10_takes_27 : decode cX10_takes 27 = .ok (.iconst 0, 1) := by decide +kernel
theorem dX10_takes_28 : decode cX10_takes 28 = .ok (.iadd, 1) := by decide +kernel
theorem dX10_takes_29 : decode cX10_takes 29 = .ok (.putfield 211, 3) := by decide +kernel
theorem dX10_takes_32 : decode cX10_takes 32 = .ok (.iload_n 2, 1) := by decide +kernel
theorem dX10_takes_33 : decode cX10_takes 33 = .ok (.ireturn, 1) := by decide +kernel
theorem dX10_readNumber_0 : decode cX10_readNumber 0 = .ok (.aload_n 0, 1) := by decide +kernel
theorem dX10_readNumber_1 : decode cX10_readNumber 1 = .ok (.invokevirtual 214, 3) := by decide +kernel
theorem dX10_readNumber_4 : decode cX10_readNumber 4 = .ok (.pop, 1) := by decide +kernel
theorem dX10_readNumber_5 : decode cX10_readNumber 5 = .ok (.aload_n 0, 1) := by decide +kernel
theorem dX10_readNumber_6 : decode cX10_readNumber 6 = .ok (.getfield 211, 3) := by decide +kernel
theorem dX10_readNumber_9 : decode cX10_readNumber 9 = .ok (.istore_n 3, 1) := by decide +kernel
theorem dX10_readNumber_10 : decode cX10_readNumber 10 = .ok (.iconst 0, 1) := by decide +kernel
theorem dX10_readNumber_11 : decode cX10_readNumber 11 = .ok (.istore 4, 2) := by decide +kernel
theorem dX10_readNumber_13 : decode cX10_readNumber 13 = .ok (.aload_n 0, 1) := by decide +kernel
theorem dX10_readNumber_14 : decode cX10_readNumber 14 = .ok (.getfield 211, 3) := by decide +kernel
theorem dX10_readNumber_17 : decode cX10_readNumber 17 = .ok (.aload_n 0, 1) := by decide +kernel
theorem dX10_readNumber_18 : decode cX10_readNumber 18 = .ok (.getfield 208, 3) := by decide +kernel
theorem dX10_readNumber_21 : decode cX10_readNumber 21 = .ok (.if_icmp .ge 71, 3) := by decide +kernel
theorem dX10_readNumber_24 : decode cX10_readNumber 24 = .ok (.aload_n 0, 1) := by decide +kernel
theorem dX10_readNumber_25 : decode cX10_readNumber 25 = .ok (.getfield 40, 3) := by decide +kernel
theorem dX10_readNumber_28 : decode cX10_readNumber 28 = .ok (.aload_n 0, 1) := by decide +kernel
theorem dX10_readNumber_29 : decode cX10_readNumber 29 = .ok (.getfield 211, 3) := by decide +kernel
theorem dX10_readNumber_32 : decode cX10_readNumber 32 = .ok (.iaload, 1) := by decide +kernel
theorem dX10_readNumber_33 : decode cX10_readNumber 33 = .ok (.i2l, 1) := by decide +kernel
theorem dX10_readNumber_34 : decode cX10_readNumber 34 = .ok (.ldc2_w 217, 3) := by decide +kernel
theorem dX10_readNumber_37 : decode cX10_readNumber 37 = .ok (.ldc2_w 219, 3) := by decide +kernel
theorem dX10_readNumber_40 : decode cX10_readNumber 40 = .ok (.invokestatic 69, 3) := by decide +kernel
theorem dX10_readNumber_43 : decode cX10_readNumber 43 = .ok (.ifCond .eq 49, 3) := by decide +kernel
theorem dX10_readNumber_46 : decode cX10_readNumber 46 = .ok (.iload 4, 2) := by decide +kernel
theorem dX10_readNumber_48 : decode cX10_readNumber 48 = .ok (.sipush 999, 3) := by decide +kernel
theorem dX10_readNumber_51 : decode cX10_readNumber 51 = .ok (.if_icmp .le 8, 3) := by decide +kernel
theorem dX10_readNumber_54 : decode cX10_readNumber 54 = .ok (.iload 4, 2) := by decide +kernel
theorem dX10_readNumber_56 : decode cX10_readNumber 56 = .ok (.goto 21, 3) := by decide +kernel
theorem dX10_readNumber_59 : decode cX10_readNumber 59 = .ok (.bipush 10, 2) := by decide +kernel
theorem dX10_readNumber_61 : decode cX10_readNumber 61 = .ok (.iload 4, 2) := by decide +kernel
theorem dX10_readNumber_63 : decode cX10_readNumber 63 = .ok (.imul, 1) := by decide +kernel
theorem dX10_readNumber_64 : decode cX10_readNumber 64 = .ok (.aload_n 0, 1) := by decide +kernel
theorem dX10_readNumber_65 : decode cX10_readNumber 65 = .ok (.getfield 40, 3) := by decide +kernel
theorem dX10_readNumber_68 : decode cX10_readNumber 68 = .ok (.aload_n 0, 1) := by decide +kernel
theorem dX10_readNumber_69 : decode cX10_readNumber 69 = .ok (.getfield 211, 3) := by decide +kernel
theorem dX10_readNumber_72 : decode cX10_readNumber 72 = .ok (.iaload, 1) := by decide +kernel
theorem dX10_readNumber_73 : decode cX10_readNumber 73 = .ok (.iadd, 1) := by decide +kernel
theorem dX10_readNumber_74 : decode cX10_readNumber 74 = .ok (.bipush 48, 2) := by decide +kernel
theorem dX10_readNumber_76 : decode cX10_readNumber 76 = .ok (.isub, 1) := by decide +kernel
theorem dX10_readNumber_77 : decode cX10_readNumber 77 = .ok (.istore 4, 2) := by decide +kernel
theorem dX10_readNumber_79 : decode cX10_readNumber 79 = .ok (.aload_n 0, 1) := by decide +kernel
theorem dX10_readNumber_80 : decode cX10_readNumber 80 = .ok (.dup, 1) := by decide +kernel
theorem dX10_readNumber_81 : decode cX10_readNumber 81 = .ok (.getfield 211, 3) := by decide +kernel
theorem dX10_readNumber_84 : decode cX10_readNumber 84 = .ok (.iconst 1, 1) := by decide +kernel
theorem dX10_readNumber_85 : decode cX10_readNumber 85 = .ok (.iadd, 1) := by decide +kernel
theorem dX10_readNumber_86 : decode cX10_readNumber 86 = .ok (.putfield 211, 3) := by decide +kernel
theorem dX10_readNumber_89 : decode cX10_readNumber 89 = .ok (.goto (-76), 3) := by decide +kernel
theorem dX10_readNumber_92 : decode cX10_readNumber 92 = .ok (.aload_n 0, 1) := by decide +kernel
theorem dX10_readNumber_93 : decode cX10_readNumber 93 = .ok (.getfield 211, 3) := by decide +kernel
theorem dX10_readNumber_96 : decode cX10_readNumber 96 = .ok (.iload_n 3, 1) := by decide +kernel
theorem dX10_readNumber_97 : decode cX10_readNumber 97 = .ok (.if_icmp .ne 5, 3) := by decide +kernel
theorem dX10_readNumber_100 : decode cX10_readNumber 100 = .ok (.iconst (-1), 1) := by decide +kernel
theorem dX10_readNumber_101 : decode cX10_readNumber 101 = .ok (.ireturn, 1) := by decide +kernel
theorem dX10_readNumber_102 : decode cX10_readNumber 102 = .ok (.iload 4, 2) := by decide +kernel
theorem dX10_readNumber_104 : decode cX10_readNumber 104 = .ok (.i2l, 1) := by decide +kernel
theorem dX10_readNumber_105 : decode cX10_readNumber 105 = .ok (.iload_n 1, 1) := by decide +kernel
theorem dX10_readNumber_106 : decode cX10_readNumber 106 = .ok (.i2l, 1) := by decide +kernel
theorem dX10_readNumber_107 : decode cX10_readNumber 107 = .ok (.iload_n 2, 1) := by decide +kernel
theorem dX10_readNumber_108 : decode cX10_readNumber 108 = .ok (.i2l, 1) := by decide +kernel
theorem dX10_readNumber_109 : decode cX10_readNumber 109 = .ok (.invokestatic 69, 3) := by decide +kernel
theorem dX10_readNumber_112 : decode cX10_readNumber 112 = .ok (.ifCond .ne 10, 3) := by decide +kernel
theorem dX10_readNumber_115 : decode cX10_readNumber 115 = .ok (.aload_n 0, 1) := by decide +kernel
theorem dX10_readNumber_116 : decode cX10_readNumber 116 = .ok (.iload_n 3, 1) := by decide +kernel
theorem dX10_readNumber_117 : decode cX10_readNumber 117 = .ok (.putfield 211, 3) := by decide +kernel
theorem dX10_readNumber_120 : decode cX10_readNumber 120 = .ok (.iconst (-1), 1) := by decide +kernel
theorem dX10_readNumber_121 : decode cX10_readNumber 121 = .ok (.ireturn, 1) := by decide +kernel
theorem dX10_readNumber_122 : decode cX10_readNumber 122 = .ok (.iload 4, 2) := by decide +kernel
theorem dX10_readNumber_124 : decode cX10_readNumber 124 = .ok (.ireturn, 1) := by decide +kernel
theorem dX10_readMarks_0 : decode cX10_readMarks 0 = .ok (.iconst 0, 1) := by decide +kernel
theorem dX10_readMarks_1 : decode cX10_readMarks 1 = .ok (.istore_n 2, 1) := by decide +kernel
theorem dX10_readMarks_2 : decode cX10_readMarks 2 = .ok (.iconst (-1), 1) := by decide +kernel
theorem dX10_readMarks_3 : decode cX10_readMarks 3 = .ok (.istore_n 3, 1) := by decide +kernel
theorem dX10_readMarks_4 : decode cX10_readMarks 4 = .ok (.iconst 1, 1) := by decide +kernel
theorem dX10_readMarks_5 : decode cX10_readMarks 5 = .ok (.istore 4, 2) := by decide +kernel
theorem dX10_readMarks_7 : decode cX10_readMarks 7 = .ok (.iload 4, 2) := by decide +kernel
theorem dX10_readMarks_9 : decode cX10_readMarks 9 = .ok (.ifCond .eq 101, 3) := by decide +kernel
theorem dX10_readMarks_12 : decode cX10_readMarks 12 = .ok (.aload_n 0, 1) := by decide +kernel
theorem dX10_readMarks_13 : decode cX10_readMarks 13 = .ok (.invokevirtual 214, 3) := by decide +kernel
theorem dX10_readMarks_16 : decode cX10_readMarks 16 = .ok (.bipush 97, 2) := by decide +kernel
theorem dX10_readMarks_18 : decode cX10_readMarks 18 = .ok (.isub, 1) := by decide +kernel
theorem dX10_readMarks_19 : decode cX10_readMarks 19 = .ok (.istore 5, 2) := by decide +kernel
theorem dX10_readMarks_21 : decode cX10_readMarks 21 = .ok (.iload 5, 2) := by decide +kernel
theorem dX10_readMarks_23 : decode cX10_readMarks 23 = .ok (.i2l, 1) := by decide +kernel
theorem dX10_readMarks_24 : decode cX10_readMarks 24 = .ok (.lconst 0, 1) := by decide +kernel
theorem dX10_readMarks_25 : decode cX10_readMarks 25 = .ok (.ldc2_w 67, 3) := by decide +kernel
theorem dX10_readMarks_28 : decode cX10_readMarks 28 = .ok (.invokestatic 69, 3) := by decide +kernel
theorem dX10_readMarks_31 : decode cX10_readMarks 31 = .ok (.istore 6, 2) := by decide +kernel
theorem dX10_readMarks_33 : decode cX10_readMarks 33 = .ok (.iload 6, 2) := by decide +kernel
theorem dX10_readMarks_35 : decode cX10_readMarks 35 = .ok (.ifCond .eq 19, 3) := by decide +kernel
theorem dX10_readMarks_38 : decode cX10_readMarks 38 = .ok (.iload 5, 2) := by decide +kernel
theorem dX10_readMarks_40 : decode cX10_readMarks 40 = .ok (.iload_n 3, 1) := by decide +kernel
theorem dX10_readMarks_41 : decode cX10_readMarks 41 = .ok (.if_icmp .le 22, 3) := by decide +kernel
theorem dX10_readMarks_44 : decode cX10_readMarks 44 = .ok (.iload_n 1, 1) := by decide +kernel
theorem dX10_readMarks_45 : decode cX10_readMarks 45 = .ok (.iload 5, 2) := by decide +kernel
theorem dX10_readMarks_47 : decode cX10_readMarks 47 = .ok (.ishr, 1) := by decide +kernel
theorem dX10_readMarks_48 : decode cX10_readMarks 48 = .ok (.iconst 1, 1) := by decide +kernel
theorem dX10_readMarks_49 : decode cX10_readMarks 49 = .ok (.iand, 1) := by decide +kernel
theorem dX10_readMarks_50 : decode cX10_readMarks 50 = .ok (.iconst 1, 1) := by decide +kernel
theorem dX10_readMarks_51 : decode cX10_readMarks 51 = .ok (.if_icmp .eq 12, 3) := by decide +kernel
theorem dX10_readMarks_54 : decode cX10_readMarks 54 = .ok (.iload 6, 2) := by decide +kernel
theorem dX10_readMarks_56 : decode cX10_readMarks 56 = .ok (.ifCond .ne 9, 3) := by decide +kernel
theorem dX10_readMarks_59 : decode cX10_readMarks 59 = .ok (.iload_n 2, 1) := by decide +kernel
theorem dX10_readMarks_60 : decode cX10_readMarks 60 = .ok (.ifCond .ne 5, 3) := by decide +kernel
theorem dX10_readMarks_63 : decode cX10_readMarks 63 = .ok (.iconst 0, 1) := by decide +kernel
theorem dX10_readMarks_64 : decode cX10_readMarks 64 = .ok (.ireturn, 1) := by decide +kernel
theorem dX10_readMarks_65 : decode cX10_readMarks 65 = .ok (.iload_n 2, 1) := by decide +kernel
theorem dX10_readMarks_66 : decode cX10_readMarks 66 = .ok (.iload 6, 2) := by decide +kernel
theorem dX10_readMarks_68 : decode cX10_readMarks 68 = .ok (.ifCond .eq 10, 3) := by decide +kernel
theorem dX10_readMarks_71 : decode cX10_readMarks 71 = .ok (.iconst 1, 1) := by decide +kernel
theorem dX10_readMarks_72 : decode cX10_readMarks 72 = .ok (.iload 5, 2) := by decide +kernel
theorem dX10_readMarks_74 : decode cX10_readMarks 74 = .ok (.ishl, 1) := by decide +kernel
theorem dX10_readMarks_75 : decode cX10_readMarks 75 = .ok (.goto 4, 3) := by decide +kernel
theorem dX10_readMarks_78 : decode cX10_readMarks 78 = .ok (.iconst 0, 1) := by decide +kernel
theorem dX10_readMarks_79 : decode cX10_readMarks 79 = .ok (.ior, 1) := by decide +kernel
theorem dX10_readMarks_80 : decode cX10_readMarks 80 = .ok (.istore_n 2, 1) := by decide +kernel
theorem dX10_readMarks_81 : decode cX10_readMarks 81 = .ok (.iload 5, 2) := by decide +kernel
theorem dX10_readMarks_83 : decode cX10_readMarks 83 = .ok (.istore_n 3, 1) := by decide +kernel
theorem dX10_readMarks_84 : decode cX10_readMarks 84 = .ok (.aload_n 0, 1) := by decide +kernel
theorem dX10_readMarks_85 : decode cX10_readMarks 85 = .ok (.dup, 1) := by decide +kernel
theorem dX10_readMarks_86 : decode cX10_readMarks 86 = .ok (.getfield 211, 3) := by decide +kernel
theorem dX10_readMarks_89 : decode cX10_readMarks 89 = .ok (.iload 6, 2) := by decide +kernel
theorem dX10_readMarks_91 : decode cX10_readMarks 91 = .ok (.ifCond .eq 7, 3) := by decide +kernel
theorem dX10_readMarks_94 : decode cX10_readMarks 94 = .ok (.iconst 1, 1) := by decide +kernel
theorem dX10_readMarks_95 : decode cX10_readMarks 95 = .ok (.goto 4, 3) := by decide +kernel
theorem dX10_readMarks_98 : decode cX10_readMarks 98 = .ok (.iconst 0, 1) := by decide +kernel
theorem dX10_readMarks_99 : decode cX10_readMarks 99 = .ok (.iadd, 1) := by decide +kernel
theorem dX10_readMarks_100 : decode cX10_readMarks 100 = .ok (.putfield 211, 3) := by decide +kernel
theorem dX10_readMarks_103 : decode cX10_readMarks 103 = .ok (.iload 6, 2) := by decide +kernel
theorem dX10_readMarks_105 : decode cX10_readMarks 105 = .ok (.istore 4, 2) := by decide +kernel
theorem dX10_readMarks_107 : decode cX10_readMarks 107 = .ok (.goto (-100), 3) := by decide +kernel
theorem dX10_readMarks_110 : decode cX10_readMarks 110 = .ok (.iload_n 2, 1) := by decide +kernel
theorem dX10_readMarks_111 : decode cX10_readMarks 111 = .ok (.ireturn, 1) := by decide +kernel
theorem dX10_readCrime_0 : decode cX10_readCrime 0 = .ok (.bipush 6, 2) := by decide +kernel
theorem dX10_readCrime_2 : decode cX10_readCrime 2 = .ok (.aload_n 0, 1) := by decide +kernel
theorem dX10_readCrime_3 : decode cX10_readCrime 3 = .ok (.getfield 221, 3) := by decide +kernel
theorem dX10_readCrime_6 : decode cX10_readCrime 6 = .ok (.imul, 1) := by decide +kernel
theorem dX10_readCrime_7 : decode cX10_readCrime 7 = .ok (.istore_n 2, 1) := by decide +kernel
theorem dX10_readCrime_8 : decode cX10_readCrime 8 = .ok (.aload_n 0, 1) := by decide +kernel
theorem dX10_readCrime_9 : decode cX10_readCrime 9 = .ok (.iconst 0, 1) := by decide +kernel
theorem dX10_readCrime_10 : decode cX10_readCrime 10 = .ok (.invokevirtual 224, 3) := by decide +kernel
theorem dX10_readCrime_13 : decode cX10_readCrime 13 = .ok (.istore_n 3, 1) := by decide +kernel
theorem dX10_readCrime_14 : decode cX10_readCrime 14 = .ok (.iload_n 3, 1) := by decide +kernel
theorem dX10_readCrime_15 : decode cX10_readCrime 15 = .ok (.ifCond .ne 5, 3) := by decide +kernel
theorem dX10_readCrime_18 : decode cX10_readCrime 18 = .ok (.iconst 0, 1) := by decide +kernel
theorem dX10_readCrime_19 : decode cX10_readCrime 19 = .ok (.ireturn, 1) := by decide +kernel
theorem dX10_readCrime_20 : decode cX10_readCrime 20 = .ok (.iconst 0, 1) := by decide +kernel
theorem dX10_readCrime_21 : decode cX10_readCrime 21 = .ok (.istore 4, 2) := by decide +kernel
theorem dX10_readCrime_23 : decode cX10_readCrime 23 = .ok (.aload_n 0, 1) := by decide +kernel
theorem dX10_readCrime_24 : decode cX10_readCrime 24 = .ok (.bipush 45, 2) := by decide +kernel
theorem dX10_readCrime_26 : decode cX10_readCrime 26 = .ok (.invokevirtual 227, 3) := by decide +kernel
theorem dX10_readCrime_29 : decode cX10_readCrime 29 = .ok (.ifCond .eq 17, 3) := by decide +kernel
theorem dX10_readCrime_32 : decode cX10_readCrime 32 = .ok (.aload_n 0, 1) := by decide +kernel
theorem dX10_readCrime_33 : decode cX10_readCrime 33 = .ok (.iload_n 3, 1) := by decide +kernel
theorem dX10_readCrime_34 : decode cX10_readCrime 34 = .ok (.invokevirtual 224, 3) := by decide +kernel
theorem dX10_readCrime_37 : decode cX10_readCrime 37 = .ok (.istore 4, 2) := by decide +kernel
theorem dX10_readCrime_39 : decode cX10_readCrime 39 = .ok (.iload 4, 2) := by decide +kernel
theorem dX10_readCrime_41 : decode cX10_readCrime 41 = .ok (.ifCond .ne 5, 3) := by decide +kernel
theorem dX10_readCrime_44 : decode cX10_readCrime 44 = .ok (.iconst 0, 1) := by decide +kernel
theorem dX10_readCrime_45 : decode cX10_readCrime 45 = .ok (.ireturn, 1) := by decide +kernel
theorem dX10_readCrime_46 : decode cX10_readCrime 46 = .ok (.aload_n 0, 1) := by decide +kernel
theorem dX10_readCrime_47 : decode cX10_readCrime 47 = .ok (.iconst 0, 1) := by decide +kernel
theorem dX10_readCrime_48 : decode cX10_readCrime 48 = .ok (.bipush 40, 2) := by decide +kernel
theorem dX10_readCrime_50 : decode cX10_readCrime 50 = .ok (.invokevirtual 230, 3) := by decide +kernel
theorem dX10_readCrime_53 : decode cX10_readCrime 53 = .ok (.istore 5, 2) := by decide +kernel
theorem dX10_readCrime_55 : decode cX10_readCrime 55 = .ok (.iload 5, 2) := by decide +kernel
theorem dX10_readCrime_57 : decode cX10_readCrime 57 = .ok (.ifCond .lt 21, 3) := by decide +kernel
theorem dX10_readCrime_60 : decode cX10_readCrime 60 = .ok (.aload_n 0, 1) := by decide +kernel
theorem dX10_readCrime_61 : decode cX10_readCrime 61 = .ok (.bipush 46, 2) := by decide +kernel
theorem dX10_readCrime_63 : decode cX10_readCrime 63 = .ok (.invokevirtual 227, 3) := by decide +kernel
theorem dX10_readCrime_66 : decode cX10_readCrime 66 = .ok (.ifCond .eq 12, 3) := by decide +kernel
theorem dX10_readCrime_69 : decode cX10_readCrime 69 = .ok (.aload_n 0, 1) := by decide +kernel
theorem dX10_readCrime_70 : decode cX10_readCrime 70 = .ok (.bipush 46, 2) := by decide +kernel
theorem dX10_readCrime_72 : decode cX10_readCrime 72 = .ok (.invokevirtual 227, 3) := by decide +kernel
theorem dX10_readCrime_75 : decode cX10_readCrime 75 = .ok (.ifCond .ne 5, 3) := by decide +kernel
theorem dX10_readCrime_78 : decode cX10_readCrime 78 = .ok (.iconst 0, 1) := by decide +kernel
theorem dX10_readCrime_79 : decode cX10_readCrime 79 = .ok (.ireturn, 1) := by decide +kernel
theorem dX10_readCrime_80 : decode cX10_readCrime 80 = .ok (.aload_n 0, 1) := by decide +kernel
theorem dX10_readCrime_81 : decode cX10_readCrime 81 = .ok (.iload 5, 2) := by decide +kernel
theorem dX10_readCrime_83 : decode cX10_readCrime 83 = .ok (.ifCond .le 8, 3) := by decide +kernel
theorem dX10_readCrime_86 : decode cX10_readCrime 86 = .ok (.iload 5, 2) := by decide +kernel
theorem dX10_readCrime_88 : decode cX10_readCrime 88 = .ok (.goto 4, 3) := by decide +kernel
theorem dX10_readCrime_91 : decode cX10_readCrime 91 = .ok (.iconst 1, 1) := by decide +kernel
theorem dX10_readCrime_92 : decode cX10_readCrime 92 = .ok (.bipush 40, 2) := by decide +kernel
theorem dX10_readCrime_94 : decode cX10_readCrime 94 = .ok (.invokevirtual 230, 3) := by decide +kernel
theorem dX10_readCrime_97 : decode cX10_readCrime 97 = .ok (.istore 6, 2) := by decide +kernel
theorem dX10_readCrime_99 : decode cX10_readCrime 99 = .ok (.iload 6, 2) := by decide +kernel
theorem dX10_readCrime_101 : decode cX10_readCrime 101 = .ok (.ifCond .ge 5, 3) := by decide +kernel
theorem dX10_readCrime_104 : decode cX10_readCrime 104 = .ok (.iconst 0, 1) := by decide +kernel
theorem dX10_readCrime_105 : decode cX10_readCrime 105 = .ok (.ireturn, 1) := by decide +kernel
theorem dX10_readCrime_106 : decode cX10_readCrime 106 = .ok (.aload_n 0, 1) := by decide +kernel
theorem dX10_readCrime_107 : decode cX10_readCrime 107 = .ok (.getfield 43, 3) := by decide +kernel
theorem dX10_readCrime_110 : decode cX10_readCrime 110 = .ok (.iload_n 2, 1) := by decide +kernel
theorem dX10_readCrime_111 : decode cX10_readCrime 111 = .ok (.iload_n 1, 1) := by decide +kernel
theorem dX10_readCrime_112 : decode cX10_readCrime 112 = .ok (.iastore, 1) := by decide +kernel
theorem dX10_readCrime_113 : decode cX10_readCrime 113 = .ok (.aload_n 0, 1) := by decide +kernel
theorem dX10_readCrime_114 : decode cX10_readCrime 114 = .ok (.getfield 43, 3) := by decide +kernel
theorem dX10_readCrime_117 : decode cX10_readCrime 117 = .ok (.iload_n 2, 1) := by decide +kernel
theorem dX10_readCrime_118 : decode cX10_readCrime 118 = .ok (.iconst 1, 1) := by decide +kernel
theorem dX10_readCrime_119 : decode cX10_readCrime 119 = .ok (.iadd, 1) := by decide +kernel
theorem dX10_readCrime_120 : decode cX10_readCrime 120 = .ok (.iload_n 3, 1) := by decide +kernel
theorem dX10_readCrime_121 : decode cX10_readCrime 121 = .ok (.iastore, 1) := by decide +kernel
theorem dX10_readCrime_122 : decode cX10_readCrime 122 = .ok (.aload_n 0, 1) := by decide +kernel
theorem dX10_readCrime_123 : decode cX10_readCrime 123 = .ok (.getfield 43, 3) := by decide +kernel
theorem dX10_readCrime_126 : decode cX10_readCrime 126 = .ok (.iload_n 2, 1) := by decide +kernel
theorem dX10_readCrime_127 : decode cX10_readCrime 127 = .ok (.iconst 2, 1) := by decide +kernel
theorem dX10_readCrime_128 : decode cX10_readCrime 128 = .ok (.iadd, 1) := by decide +kernel
theorem dX10_readCrime_129 : decode cX10_readCrime 129 = .ok (.iload 4, 2) := by decide +kernel
theorem dX10_readCrime_131 : decode cX10_readCrime 131 = .ok (.iastore, 1) := by decide +kernel
theorem dX10_readCrime_132 : decode cX10_readCrime 132 = .ok (.aload_n 0, 1) := by decide +kernel
theorem dX10_readCrime_133 : decode cX10_readCrime 133 = .ok (.getfield 43, 3) := by decide +kernel
theorem dX10_readCrime_136 : decode cX10_readCrime 136 = .ok (.iload_n 2, 1) := by decide +kernel
theorem dX10_readCrime_137 : decode cX10_readCrime 137 = .ok (.iconst 3, 1) := by decide +kernel
theorem dX10_readCrime_138 : decode cX10_readCrime 138 = .ok (.iadd, 1) := by decide +kernel
theorem dX10_readCrime_139 : decode cX10_readCrime 139 = .ok (.iload 5, 2) := by decide +kernel
theorem dX10_readCrime_141 : decode cX10_readCrime 141 = .ok (.iastore, 1) := by decide +kernel
theorem dX10_readCrime_142 : decode cX10_readCrime 142 = .ok (.aload_n 0, 1) := by decide +kernel
theorem dX10_readCrime_143 : decode cX10_readCrime 143 = .ok (.getfield 43, 3) := by decide +kernel
theorem dX10_readCrime_146 : decode cX10_readCrime 146 = .ok (.iload_n 2, 1) := by decide +kernel
theorem dX10_readCrime_147 : decode cX10_readCrime 147 = .ok (.iconst 4, 1) := by decide +kernel
theorem dX10_readCrime_148 : decode cX10_readCrime 148 = .ok (.iadd, 1) := by decide +kernel
theorem dX10_readCrime_149 : decode cX10_readCrime 149 = .ok (.iload 6, 2) := by decide +kernel
theorem dX10_readCrime_151 : decode cX10_readCrime 151 = .ok (.iastore, 1) := by decide +kernel
theorem dX10_readCrime_152 : decode cX10_readCrime 152 = .ok (.aload_n 0, 1) := by decide +kernel
theorem dX10_readCrime_153 : decode cX10_readCrime 153 = .ok (.getfield 43, 3) := by decide +kernel
theorem dX10_readCrime_156 : decode cX10_readCrime 156 = .ok (.iload_n 2, 1) := by decide +kernel
theorem dX10_readCrime_157 : decode cX10_readCrime 157 = .ok (.iconst 5, 1) := by decide +kernel
theorem dX10_readCrime_158 : decode cX10_readCrime 158 = .ok (.iadd, 1) := by decide +kernel
theorem dX10_readCrime_159 : decode cX10_readCrime 159 = .ok (.aload_n 0, 1) := by decide +kernel
theorem dX10_readCrime_160 : decode cX10_readCrime 160 = .ok (.bipush 33, 2) := by decide +kernel
theorem dX10_readCrime_162 : decode cX10_readCrime 162 = .ok (.invokevirtual 227, 3) := by decide +kernel
theorem dX10_readCrime_165 : decode cX10_readCrime 165 = .ok (.ifCond .eq 7, 3) := by decide +kernel
theorem dX10_readCrime_168 : decode cX10_readCrime 168 = .ok (.iconst 1, 1) := by decide +kernel
theorem dX10_readCrime_169 : decode cX10_readCrime 169 = .ok (.goto 4, 3) := by decide +kernel
theorem dX10_readCrime_172 : decode cX10_readCrime 172 = .ok (.iconst 0, 1) := by decide +kernel
theorem dX10_readCrime_173 : decode cX10_readCrime 173 = .ok (.iastore, 1) := by decide +kernel
theorem dX10_readCrime_174 : decode cX10_readCrime 174 = .ok (.aload_n 0, 1) := by decide +kernel
theorem dX10_readCrime_175 : decode cX10_readCrime 175 = .ok (.dup, 1) := by decide +kernel
theorem dX10_readCrime_176 : decode cX10_readCrime 176 = .ok (.getfield 221, 3) := by decide +kernel
theorem dX10_readCrime_179 : decode cX10_readCrime 179 = .ok (.iconst 1, 1) := by decide +kernel
theorem dX10_readCrime_180 : decode cX10_readCrime 180 = .ok (.iadd, 1) := by decide +kernel
theorem dX10_readCrime_181 : decode cX10_readCrime 181 = .ok (.putfield 221, 3) := by decide +kernel
theorem dX10_readCrime_184 : decode cX10_readCrime 184 = .ok (.iconst 1, 1) := by decide +kernel
theorem dX10_readCrime_185 : decode cX10_readCrime 185 = .ok (.ireturn, 1) := by decide +kernel
theorem dX10_barOf_0 : decode cX10_barOf 0 = .ok (.iload_n 0, 1) := by decide +kernel
theorem dX10_barOf_1 : decode cX10_barOf 1 = .ok (.bipush 111, 2) := by decide +kernel
theorem dX10_barOf_3 : decode cX10_barOf 3 = .ok (.if_icmp .ne 7, 3) := by decide +kernel
theorem dX10_barOf_6 : decode cX10_barOf 6 = .ok (.iconst 1, 1) := by decide +kernel
theorem dX10_barOf_7 : decode cX10_barOf 7 = .ok (.goto 46, 3) := by decide +kernel
theorem dX10_barOf_10 : decode cX10_barOf 10 = .ok (.iload_n 0, 1) := by decide +kernel
theorem dX10_barOf_11 : decode cX10_barOf 11 = .ok (.bipush 106, 2) := by decide +kernel
theorem dX10_barOf_13 : decode cX10_barOf 13 = .ok (.if_icmp .ne 7, 3) := by decide +kernel
theorem dX10_barOf_16 : decode cX10_barOf 16 = .ok (.iconst 2, 1) := by decide +kernel
theorem dX10_barOf_17 : decode cX10_barOf 17 = .ok (.goto 36, 3) := by decide +kernel
theorem dX10_barOf_20 : decode cX10_barOf 20 = .ok (.iload_n 0, 1) := by decide +kernel
theorem dX10_barOf_21 : decode cX10_barOf 21 = .ok (.bipush 112, 2) := by decide +kernel
theorem dX10_barOf_23 : decode cX10_barOf 23 = .ok (.if_icmp .ne 7, 3) := by decide +kernel
theorem dX10_barOf_26 : decode cX10_barOf 26 = .ok (.iconst 4, 1) := by decide +kernel
theorem dX10_barOf_27 : decode cX10_barOf 27 = .ok (.goto 26, 3) := by decide +kernel
theorem dX10_barOf_30 : decode cX10_barOf 30 = .ok (.iload_n 0, 1) := by decide +kernel
theorem dX10_barOf_31 : decode cX10_barOf 31 = .ok (.bipush 107, 2) := by decide +kernel
theorem dX10_barOf_33 : decode cX10_barOf 33 = .ok (.if_icmp .ne 8, 3) := by decide +kernel
theorem dX10_barOf_36 : decode cX10_barOf 36 = .ok (.bipush 8, 2) := by decide +kernel
theorem dX10_barOf_38 : decode cX10_barOf 38 = .ok (.goto 15, 3) := by decide +kernel
theorem dX10_barOf_41 : decode cX10_barOf 41 = .ok (.iload_n 0, 1) := by decide +kernel
theorem dX10_barOf_42 : decode cX10_barOf 42 = .ok (.bipush 104, 2) := by decide +kernel
theorem dX10_barOf_44 : decode cX10_barOf 44 = .ok (.if_icmp .ne 8, 3) := by decide +kernel
theorem dX10_barOf_47 : decode cX10_barOf 47 = .ok (.bipush 16, 2) := by decide +kernel
theorem dX10_barOf_49 : decode cX10_barOf 49 = .ok (.goto 4, 3) := by decide +kernel
theorem dX10_barOf_52 : decode cX10_barOf 52 = .ok (.iconst 0, 1) := by decide +kernel
theorem dX10_barOf_53 : decode cX10_barOf 53 = .ok (.ireturn, 1) := by decide +kernel
theorem dX10_promiseOf_0 : decode cX10_promiseOf 0 = .ok (.iload_n 0, 1) := by decide +kernel
theorem dX10_promiseOf_1 : decode cX10_promiseOf 1 = .ok (.bipush 68, 2) := by decide +kernel
theorem dX10_promiseOf_3 : decode cX10_promiseOf 3 = .ok (.if_icmp .ne 7, 3) := by decide +kernel
theorem dX10_promiseOf_6 : decode cX10_promiseOf 6 = .ok (.iconst 1, 1) := by decide +kernel
theorem dX10_promiseOf_7 : decode cX10_promiseOf 7 = .ok (.goto 24, 3) := by decide +kernel
theorem dX10_promiseOf_10 : decode cX10_promiseOf 10 = .ok (.iload_n 0, 1) := by decide +kernel
theorem dX10_promiseOf_11 : decode cX10_promiseOf 11 = .ok (.bipush 83, 2) := by decide +kernel
theorem dX10_promiseOf_13 : decode cX10_promiseOf 13 = .ok (.if_icmp .ne 7, 3) := by decide +kernel
theorem dX10_promiseOf_16 : decode cX10_promiseOf 16 = .ok (.iconst 2, 1) := by decide +kernel
theorem dX10_promiseOf_17 : decode cX10_promiseOf 17 = .ok (.goto 14, 3) := by decide +kernel
theorem dX10_promiseOf_20 : decode cX10_promiseOf 20 = .ok (.iload_n 0, 1) := by decide +kernel
theorem dX10_promiseOf_21 : decode cX10_promiseOf 21 = .ok (.bipush 79, 2) := by decide +kernel
theorem dX10_promiseOf_23 : decode cX10_promiseOf 23 = .ok (.if_icmp .ne 7, 3) := by decide +kernel
theorem dX10_promiseOf_26 : decode cX10_promiseOf 26 = .ok (.iconst 4, 1) := by decide +kernel
theorem dX10_promiseOf_27 : decode cX10_promiseOf 27 = .ok (.goto 4, 3) := by decide +kernel
theorem dX10_promiseOf_30 : decode cX10_promiseOf 30 = .ok (.iconst 0, 1) := by decide +kernel
theorem dX10_promiseOf_31 : decode cX10_promiseOf 31 = .ok (.ireturn, 1) := by decide +kernel
theorem dX10_readPaper_0 : decode cX10_readPaper 0 = .ok (.bipush 8, 2) := by decide +kernel
theorem dX10_readPaper_2 : decode cX10_readPaper 2 = .ok (.aload_n 0, 1) := by decide +kernel
theorem dX10_readPaper_3 : decode cX10_readPaper 3 = .ok (.getfield 233, 3) := by decide +kernel
theorem dX10_readPaper_6 : decode cX10_readPaper 6 = .ok (.imul, 1) := by decide +kernel
theorem dX10_readPaper_7 : decode cX10_readPaper 7 = .ok (.istore_n 2, 1) := by decide +kernel
theorem dX10_readPaper_8 : decode cX10_readPaper 8 = .ok (.aload_n 0, 1) := by decide +kernel
theorem dX10_readPaper_9 : decode cX10_readPaper 9 = .ok (.invokevirtual 214, 3) := by decide +kernel
theorem dX10_readPaper_12 : decode cX10_readPaper 12 = .ok (.bipush 65, 2) := by decide +kernel
theorem dX10_readPaper_14 : decode cX10_readPaper 14 = .ok (.isub, 1) := by decide +kernel
theorem dX10_readPaper_15 : decode cX10_readPaper 15 = .ok (.istore_n 3, 1) := by decide +kernel
theorem dX10_readPaper_16 : decode cX10_readPaper 16 = .ok (.iload_n 3, 1) := by decide +kernel
theorem dX10_readPaper_17 : decode cX10_readPaper 17 = .ok (.invokestatic 83, 3) := by decide +kernel
theorem dX10_readPaper_20 : decode cX10_readPaper 20 = .ok (.ifCond .eq 8, 3) := by decide +kernel
theorem dX10_readPaper_23 : decode cX10_readPaper 23 = .ok (.iload_n 3, 1) := by decide +kernel
theorem dX10_readPaper_24 : decode cX10_readPaper 24 = .ok (.iload_n 1, 1) := by decide +kernel
theorem dX10_readPaper_25 : decode cX10_readPaper 25 = .ok (.if_icmp .ne 5, 3) := by decide +kernel
theorem dX10_readPaper_28 : decode cX10_readPaper 28 = .ok (.iconst 0, 1) := by decide +kernel
theorem dX10_readPaper_29 : decode cX10_readPaper 29 = .ok (.ireturn, 1) := by decide +kernel
theorem dX10_readPaper_30 : decode cX10_readPaper 30 = .ok (.aload_n 0, 1) := by decide +kernel
theorem dX10_readPaper_31 : decode cX10_readPaper 31 = .ok (.dup, 1) := by decide +kernel
theorem dX10_readPaper_32 : decode cX10_readPaper 32 = .ok (.getfield 211, 3) := by decide +kernel
theorem dX10_readPaper_35 : decode cX10_readPaper 35 = .ok (.iconst 1, 1) := by decide +kernel
theorem dX10_readPaper_36 : decode cX10_readPaper 36 = .ok (.iadd, 1) := by decide +kernel
theorem dX10_readPaper_37 : decode cX10_readPaper 37 = .ok (.putfield 211, 3) := by decide +kernel
theorem dX10_readPaper_40 : decode cX10_readPaper 40 = .ok (.aload_n 0, 1) := by decide +kernel
theorem dX10_readPaper_41 : decode cX10_readPaper 41 = .ok (.bipush 42, 2) := by decide +kernel
theorem dX10_readPaper_43 : decode cX10_readPaper 43 = .ok (.invokevirtual 227, 3) := by decide +kernel
theorem dX10_readPaper_46 : decode cX10_readPaper 46 = .ok (.istore 4, 2) := by decide +kernel
theorem dX10_readPaper_48 : decode cX10_readPaper 48 = .ok (.iconst 1, 1) := by decide +kernel
theorem dX10_readPaper_49 : decode cX10_readPaper 49 = .ok (.istore 5, 2) := by decide +kernel
theorem dX10_readPaper_51 : decode cX10_readPaper 51 = .ok (.iload 4, 2) := by decide +kernel
theorem dX10_readPaper_53 : decode cX10_readPaper 53 = .ok (.ifCond .ne 30, 3) := by decide +kernel
theorem dX10_readPaper_56 : decode cX10_readPaper 56 = .ok (.aload_n 0, 1) := by decide +kernel
theorem dX10_readPaper_57 : decode cX10_readPaper 57 = .ok (.bipush 121, 2) := by decide +kernel
theorem dX10_readPaper_59 : decode cX10_readPaper 59 = .ok (.invokevirtual 227, 3) := by decide +kernel
theorem dX10_readPaper_62 : decode cX10_readPaper 62 = .ok (.ifCond .ne 5, 3) := by decide +kernel
theorem dX10_readPaper_65 : decode cX10_readPaper 65 = .ok (.iconst 0, 1) := by decide +kernel
theorem dX10_readPaper_66 : decode cX10_readPaper 66 = .ok (.ireturn, 1) := by decide +kernel
theorem dX10_readPaper_67 : decode cX10_readPaper 67 = .ok (.aload_n 0, 1) := by decide +kernel
theorem dX10_readPaper_68 : decode cX10_readPaper 68 = .ok (.iconst 1, 1) := by decide +kernel
theorem dX10_readPaper_69 : decode cX10_readPaper 69 = .ok (.bipush 40, 2) := by decide +kernel
theorem dX10_readPaper_71 : decode cX10_readPaper 71 = .ok (.invokevirtual 230, 3) := by decide +kernel
theorem dX10_readPaper_74 : decode cX10_readPaper 74 = .ok (.istore 5, 2) := by decide +kernel
theorem dX10_readPaper_76 : decode cX10_readPaper 76 = .ok (.iload 5, 2) := by decide +kernel
theorem dX10_readPaper_78 : decode cX10_readPaper 78 = .ok (.ifCond .ge 5, 3) := by decide +kernel
theorem dX10_readPaper_81 : decode cX10_readPaper 81 = .ok (.iconst 0, 1) := by decide +kernel
theorem dX10_readPaper_82 : decode cX10_readPaper 82 = .ok (.ireturn, 1) := by decide +kernel
theorem dX10_readPaper_83 : decode cX10_readPaper 83 = .ok (.iconst 0, 1) := by decide +kernel
theorem dX10_readPaper_84 : decode cX10_readPaper 84 = .ok (.istore 6, 2) := by decide +kernel
theorem dX10_readPaper_86 : decode cX10_readPaper 86 = .ok (.aload_n 0, 1) := by decide +kernel
theorem dX10_readPaper_87 : decode cX10_readPaper 87 = .ok (.invokevirtual 214, 3) := by decide +kernel
theorem dX10_readPaper_90 : decode cX10_readPaper 90 = .ok (.invokestatic 236, 3) := by decide +kernel
theorem dX10_readPaper_93 : decode cX10_readPaper 93 = .ok (.ifCond .le 43, 3) := by decide +kernel
theorem dX10_readPaper_96 : decode cX10_readPaper 96 = .ok (.iload 6, 2) := by decide +kernel
theorem dX10_readPaper_98 : decode cX10_readPaper 98 = .ok (.aload_n 0, 1) := by decide +kernel
theorem dX10_readPaper_99 : decode cX10_readPaper 99 = .ok (.invokevirtual 214, 3) := by decide +kernel
theorem dX10_readPaper_102 : decode cX10_readPaper 102 = .ok (.invokestatic 236, 3) := by decide +kernel
theorem dX10_readPaper_105 : decode cX10_readPaper 105 = .ok (.iand, 1) := by decide +kernel
theorem dX10_readPaper_106 : decode cX10_readPaper 106 = .ok (.ifCond .eq 5, 3) := by decide +kernel
theorem dX10_readPaper_109 : decode cX10_readPaper 109 = .ok (.iconst 0, 1) := by decide +kernel
theorem dX10_readPaper_110 : decode cX10_readPaper 110 = .ok (.ireturn, 1) := by decide +kernel
theorem dX10_readPaper_111 : decode cX10_readPaper 111 = .ok (.iload 6, 2) := by decide +kernel
theorem dX10_readPaper_113 : decode cX10_readPaper 113 = .ok (.aload_n 0, 1) := by decide +kernel
theorem dX10_readPaper_114 : decode cX10_readPaper 114 = .ok (.invokevirtual 214, 3) := by decide +kernel
theorem dX10_readPaper_117 : decode cX10_readPaper 117 = .ok (.invokestatic 236, 3) := by decide +kernel
theorem dX10_readPaper_120 : decode cX10_readPaper 120 = .ok (.ior, 1) := by decide +kernel
theorem dX10_readPaper_121 : decode cX10_readPaper 121 = .ok (.istore 6, 2) := by decide +kernel
theorem dX10_readPaper_123 : decode cX10_readPaper 123 = .ok (.aload_n 0, 1) := by decide +kernel
theorem dX10_readPaper_124 : decode cX10_readPaper 124 = .ok (.dup, 1) := by decide +kernel
theorem dX10_readPaper_125 : decode cX10_readPaper 125 = .ok (.getfield 211, 3) := by decide +kernel
theorem dX10_readPaper_128 : decode cX10_readPaper 128 = .ok (.iconst 1, 1) := by decide +kernel
theorem dX10_readPaper_129 : decode cX10_readPaper 129 = .ok (.iadd, 1) := by decide +kernel
theorem dX10_readPaper_130 : decode cX10_readPaper 130 = .ok (.putfield 211, 3) := by decide +kernel
theorem dX10_readPaper_133 : decode cX10_readPaper 133 = .ok (.goto (-47), 3) := by decide +kernel
theorem dX10_readPaper_136 : decode cX10_readPaper 136 = .ok (.iconst 0, 1) := by decide +kernel
theorem dX10_readPaper_137 : decode cX10_readPaper 137 = .ok (.istore 7, 2) := by decide +kernel
theorem dX10_readPaper_139 : decode cX10_readPaper 139 = .ok (.aload_n 0, 1) := by decide +kernel
theorem dX10_readPaper_140 : decode cX10_readPaper 140 = .ok (.bipush 116, 2) := by decide +kernel
theorem dX10_readPaper_142 : decode cX10_readPaper 142 = .ok (.invokevirtual 227, 3) := by decide +kernel
theorem dX10_readPaper_145 : decode cX10_readPaper 145 = .ok (.ifCond .eq 19, 3) := by decide +kernel
theorem dX10_readPaper_148 : decode cX10_readPaper 148 = .ok (.aload_n 0, 1) := by decide +kernel
theorem dX10_readPaper_149 : decode cX10_readPaper 149 = .ok (.iconst 1, 1) := by decide +kernel
theorem dX10_readPaper_150 : decode cX10_readPaper 150 = .ok (.bipush 99, 2) := by decide +kernel
theorem dX10_readPaper_152 : decode cX10_readPaper 152 = .ok (.invokevirtual 230, 3) := by decide +kernel
theorem dX10_readPaper_155 : decode cX10_readPaper 155 = .ok (.istore 7, 2) := by decide +kernel
theorem dX10_readPaper_157 : decode cX10_readPaper 157 = .ok (.iload 7, 2) := by decide +kernel
theorem dX10_readPaper_159 : decode cX10_readPaper 159 = .ok (.ifCond .ge 5, 3) := by decide +kernel
theorem dX10_readPaper_162 : decode cX10_readPaper 162 = .ok (.iconst 0, 1) := by decide +kernel
theorem dX10_readPaper_163 : decode cX10_readPaper 163 = .ok (.ireturn, 1) := by decide +kernel
theorem dX10_readPaper_164 : decode cX10_readPaper 164 = .ok (.iconst 0, 1) := by decide +kernel
theorem dX10_readPaper_165 : decode cX10_readPaper 165 = .ok (.istore 8, 2) := by decide +kernel
theorem dX10_readPaper_167 : decode cX10_readPaper 167 = .ok (.aload_n 0, 1) := by decide +kernel
theorem dX10_readPaper_168 : decode cX10_readPaper 168 = .ok (.bipush 43, 2) := by decide +kernel
theorem dX10_readPaper_170 : decode cX10_readPaper 170 = .ok (.invokevirtual 227, 3) := by decide +kernel
theorem dX10_readPaper_173 : decode cX10_readPaper 173 = .ok (.ifCond .eq 47, 3) := by decide +kernel
theorem dX10_readPaper_176 : decode cX10_readPaper 176 = .ok (.aload_n 0, 1) := by decide +kernel
theorem dX10_readPaper_177 : decode cX10_readPaper 177 = .ok (.invokevirtual 214, 3) := by decide +kernel
theorem dX10_readPaper_180 : decode cX10_readPaper 180 = .ok (.invokestatic 239, 3) := by decide +kernel
theorem dX10_readPaper_183 : decode cX10_readPaper 183 = .ok (.iload 8, 2) := by decide +kernel
theorem dX10_readPaper_185 : decode cX10_readPaper 185 = .ok (.if_icmp .le 28, 3) := by decide +kernel
theorem dX10_readPaper_188 : decode cX10_readPaper 188 = .ok (.iload 8, 2) := by decide +kernel
theorem dX10_readPaper_190 : decode cX10_readPaper 190 = .ok (.aload_n 0, 1) := by decide +kernel
theorem dX10_readPaper_191 : decode cX10_readPaper 191 = .ok (.invokevirtual 214, 3) := by decide +kernel
theorem dX10_readPaper_194 : decode cX10_readPaper 194 = .ok (.invokestatic 239, 3) := by decide +kernel
theorem dX10_readPaper_197 : decode cX10_readPaper 197 = .ok (.ior, 1) := by decide +kernel
theorem dX10_readPaper_198 : decode cX10_readPaper 198 = .ok (.istore 8, 2) := by decide +kernel
theorem dX10_readPaper_200 : decode cX10_readPaper 200 = .ok (.aload_n 0, 1) := by decide +kernel
theorem dX10_readPaper_201 : decode cX10_readPaper 201 = .ok (.dup, 1) := by decide +kernel
theorem dX10_readPaper_202 : decode cX10_readPaper 202 = .ok (.getfield 211, 3) := by decide +kernel
theorem dX10_readPaper_205 : decode cX10_readPaper 205 = .ok (.iconst 1, 1) := by decide +kernel
theorem dX10_readPaper_206 : decode cX10_readPaper 206 = .ok (.iadd, 1) := by decide +kernel
theorem dX10_readPaper_207 : decode cX10_readPaper 207 = .ok (.putfield 211, 3) := by decide +kernel
theorem dX10_readPaper_210 : decode cX10_readPaper 210 = .ok (.goto (-34), 3) := by decide +kernel
theorem dX10_readPaper_213 : decode cX10_readPaper 213 = .ok (.iload 8, 2) := by decide +kernel
theorem dX10_readPaper_215 : decode cX10_readPaper 215 = .ok (.ifCond .ne 5, 3) := by decide +kernel
theorem dX10_readPaper_218 : decode cX10_readPaper 218 = .ok (.iconst 0, 1) := by decide +kernel
theorem dX10_readPaper_219 : decode cX10_readPaper 219 = .ok (.ireturn, 1) := by decide +kernel
theorem dX10_readPaper_220 : decode cX10_readPaper 220 = .ok (.aload_n 0, 1) := by decide +kernel
theorem dX10_readPaper_221 : decode cX10_readPaper 221 = .ok (.getfield 46, 3) := by decide +kernel
theorem dX10_readPaper_224 : decode cX10_readPaper 224 = .ok (.iload_n 2, 1) := by decide +kernel
theorem dX10_readPaper_225 : decode cX10_readPaper 225 = .ok (.iload 4, 2) := by decide +kernel
theorem dX10_readPaper_227 : decode cX10_readPaper 227 = .ok (.ifCond .eq 7, 3) := by decide +kernel
theorem dX10_readPaper_230 : decode cX10_readPaper 230 = .ok (.iconst 2, 1) := by decide +kernel
theorem dX10_readPaper_231 : decode cX10_readPaper 231 = .ok (.goto 4, 3) := by decide +kernel
theorem dX10_readPaper_234 : decode cX10_readPaper 234 = .ok (.iconst 0, 1) := by decide +kernel
theorem dX10_readPaper_235 : decode cX10_readPaper 235 = .ok (.iastore, 1) := by decide +kernel
theorem dX10_readPaper_236 : decode cX10_readPaper 236 = .ok (.aload_n 0, 1) := by decide +kernel
theorem dX10_readPaper_237 : decode cX10_readPaper 237 = .ok (.getfield 46, 3) := by decide +kernel
theorem dX10_readPaper_240 : decode cX10_readPaper 240 = .ok (.iload_n 2, 1) := by decide +kernel
theorem dX10_readPaper_241 : decode cX10_readPaper 241 = .ok (.iconst 1, 1) := by decide +kernel
theorem dX10_readPaper_242 : decode cX10_readPaper 242 = .ok (.iadd, 1) := by decide +kernel
theorem dX10_readPaper_243 : decode cX10_readPaper 243 = .ok (.iload_n 1, 1) := by decide +kernel
theorem dX10_readPaper_244 : decode cX10_readPaper 244 = .ok (.iastore, 1) := by decide +kernel
theorem dX10_readPaper_245 : decode cX10_readPaper 245 = .ok (.aload_n 0, 1) := by decide +kernel
theorem dX10_readPaper_246 : decode cX10_readPaper 246 = .ok (.getfield 46, 3) := by decide +kernel
theorem dX10_readPaper_249 : decode cX10_readPaper 249 = .ok (.iload_n 2, 1) := by decide +kernel
theorem dX10_readPaper_250 : decode cX10_readPaper 250 = .ok (.iconst 2, 1) := by decide +kernel
theorem dX10_readPaper_251 : decode cX10_readPaper 251 = .ok (.iadd, 1) := by decide +kernel
theorem dX10_readPaper_252 : decode cX10_readPaper 252 = .ok (.iload_n 3, 1) := by decide +kernel
theorem dX10_readPaper_253 : decode cX10_readPaper 253 = .ok (.iastore, 1) := by decide +kernel
theorem dX10_readPaper_254 : decode cX10_readPaper 254 = .ok (.aload_n 0, 1) := by decide +kernel
theorem dX10_readPaper_255 : decode cX10_readPaper 255 = .ok (.getfield 46, 3) := by decide +kernel
theorem dX10_readPaper_258 : decode cX10_readPaper 258 = .ok (.iload_n 2, 1) := by decide +kernel
theorem dX10_readPaper_259 : decode cX10_readPaper 259 = .ok (.iconst 3, 1) := by decide +kernel
theorem dX10_readPaper_260 : decode cX10_readPaper 260 = .ok (.iadd, 1) := by decide +kernel
theorem dX10_readPaper_261 : decode cX10_readPaper 261 = .ok (.iload 5, 2) := by decide +kernel
theorem dX10_readPaper_263 : decode cX10_readPaper 263 = .ok (.iastore, 1) := by decide +kernel
theorem dX10_readPaper_264 : decode cX10_readPaper 264 = .ok (.aload_n 0, 1) := by decide +kernel
theorem dX10_readPaper_265 : decode cX10_readPaper 265 = .ok (.getfield 46, 3) := by decide +kernel
theorem dX10_readPaper_268 : decode cX10_readPaper 268 = .ok (.iload_n 2, 1) := by decide +kernel
theorem dX10_readPaper_269 : decode cX10_readPaper 269 = .ok (.iconst 4, 1) := by decide +kernel
theorem dX10_readPaper_270 : decode cX10_readPaper 270 = .ok (.iadd, 1) := by decide +kernel
theorem dX10_readPaper_271 : decode cX10_readPaper 271 = .ok (.iconst 0, 1) := by decide +kernel
theorem dX10_readPaper_272 : decode cX10_readPaper 272 = .ok (.iastore, 1) := by decide +kernel
theorem dX10_readPaper_273 : decode cX10_readPaper 273 = .ok (.aload_n 0, 1) := by decide +kernel
theorem dX10_readPaper_274 : decode cX10_readPaper 274 = .ok (.getfield 46, 3) := by decide +kernel
theorem dX10_readPaper_277 : decode cX10_readPaper 277 = .ok (.iload_n 2, 1) := by decide +kernel
theorem dX10_readPaper_278 : decode cX10_readPaper 278 = .ok (.iconst 5, 1) := by decide +kernel
theorem dX10_readPaper_279 : decode cX10_readPaper 279 = .ok (.iadd, 1) := by decide +kernel
theorem dX10_readPaper_280 : decode cX10_readPaper 280 = .ok (.iload 6, 2) := by decide +kernel
theorem dX10_readPaper_282 : decode cX10_readPaper 282 = .ok (.iastore, 1) := by decide +kernel
theorem dX10_readPaper_283 : decode cX10_readPaper 283 = .ok (.aload_n 0, 1) := by decide +kernel
theorem dX10_readPaper_284 : decode cX10_readPaper 284 = .ok (.getfield 46, 3) := by decide +kernel
theorem dX10_readPaper_287 : decode cX10_readPaper 287 = .ok (.iload_n 2, 1) := by decide +kernel
theorem dX10_readPaper_288 : decode cX10_readPaper 288 = .ok (.bipush 6, 2) := by decide +kernel
theorem dX10_readPaper_290 : decode cX10_readPaper 290 = .ok (.iadd, 1) := by decide +kernel
theorem dX10_readPaper_291 : decode cX10_readPaper 291 = .ok (.iload 7, 2) := by decide +kernel
theorem dX10_readPaper_293 : decode cX10_readPaper 293 = .ok (.iastore, 1) := by decide +kernel
theorem dX10_readPaper_294 : decode cX10_readPaper 294 = .ok (.aload_n 0, 1) := by decide +kernel
theorem dX10_readPaper_295 : decode cX10_readPaper 295 = .ok (.getfield 46, 3) := by decide +kernel
theorem dX10_readPaper_298 : decode cX10_readPaper 298 = .ok (.iload_n 2, 1) := by decide +kernel
theorem dX10_readPaper_299 : decode cX10_readPaper 299 = .ok (.bipush 7, 2) := by decide +kernel
theorem dX10_readPaper_301 : decode cX10_readPaper 301 = .ok (.iadd, 1) := by decide +kernel
theorem dX10_readPaper_302 : decode cX10_readPaper 302 = .ok (.iload 8, 2) := by decide +kernel
theorem dX10_readPaper_304 : decode cX10_readPaper 304 = .ok (.iastore, 1) := by decide +kernel
theorem dX10_readPaper_305 : decode cX10_readPaper 305 = .ok (.aload_n 0, 1) := by decide +kernel
theorem dX10_readPaper_306 : decode cX10_readPaper 306 = .ok (.dup, 1) := by decide +kernel
theorem dX10_readPaper_307 : decode cX10_readPaper 307 = .ok (.getfield 233, 3) := by decide +kernel
theorem dX10_readPaper_310 : decode cX10_readPaper 310 = .ok (.iconst 1, 1) := by decide +kernel
theorem dX10_readPaper_311 : decode cX10_readPaper 311 = .ok (.iadd, 1) := by decide +kernel
theorem dX10_readPaper_312 : decode cX10_readPaper 312 = .ok (.putfield 233, 3) := by decide +kernel
theorem dX10_readPaper_315 : decode cX10_readPaper 315 = .ok (.iconst 1, 1) := by decide +kernel
theorem dX10_readPaper_316 : decode cX10_readPaper 316 = .ok (.ireturn, 1) := by decide +kernel
theorem dX10_readWorld_0 : decode cX10_readWorld 0 = .ok (.aload_n 0, 1) := by decide +kernel
theorem dX10_readWorld_1 : decode cX10_readWorld 1 = .ok (.iconst 0, 1) := by decide +kernel
theorem dX10_readWorld_2 : decode cX10_readWorld 2 = .ok (.putfield 211, 3) := by decide +kernel
theorem dX10_readWorld_5 : decode cX10_readWorld 5 = .ok (.aload_n 0, 1) := by decide +kernel
theorem dX10_readWorld_6 : decode cX10_readWorld 6 = .ok (.iconst 0, 1) := by decide +kernel
theorem dX10_readWorld_7 : decode cX10_readWorld 7 = .ok (.putfield 221, 3) := by decide +kernel
theorem dX10_readWorld_10 : decode cX10_readWorld 10 = .ok (.aload_n 0, 1) := by decide +kernel
theorem dX10_readWorld_11 : decode cX10_readWorld 11 = .ok (.iconst 0, 1) := by decide +kernel
theorem dX10_readWorld_12 : decode cX10_readWorld 12 = .ok (.putfield 233, 3) := by decide +kernel
theorem dX10_readWorld_15 : decode cX10_readWorld 15 = .ok (.iconst 0, 1) := by decide +kernel
theorem dX10_readWorld_16 : decode cX10_readWorld 16 = .ok (.istore_n 1, 1) := by decide +kernel
theorem dX10_readWorld_17 : decode cX10_readWorld 17 = .ok (.iload_n 1, 1) := by decide +kernel
theorem dX10_readWorld_18 : decode cX10_readWorld 18 = .ok (.bipush 12, 2) := by decide +kernel
theorem dX10_readWorld_20 : decode cX10_readWorld 20 = .ok (.if_icmp .ge 109, 3) := by decide +kernel
theorem dX10_readWorld_23 : decode cX10_readWorld 23 = .ok (.aload_n 0, 1) := by decide +kernel
theorem dX10_readWorld_24 : decode cX10_readWorld 24 = .ok (.invokevirtual 214, 3) := by decide +kernel
theorem dX10_readWorld_27 : decode cX10_readWorld 27 = .ok (.bipush 65, 2) := by decide +kernel
theorem dX10_readWorld_29 : decode cX10_readWorld 29 = .ok (.isub, 1) := by decide +kernel
theorem dX10_readWorld_30 : decode cX10_readWorld 30 = .ok (.istore_n 2, 1) := by decide +kernel
theorem dX10_readWorld_31 : decode cX10_readWorld 31 = .ok (.iload_n 2, 1) := by decide +kernel
theorem dX10_readWorld_32 : decode cX10_readWorld 32 = .ok (.invokestatic 83, 3) := by decide +kernel
theorem dX10_readWorld_35 : decode cX10_readWorld 35 = .ok (.ifCond .ne 5, 3) := by decide +kernel
theorem dX10_readWorld_38 : decode cX10_readWorld 38 = .ok (.iconst 0, 1) := by decide +kernel
theorem dX10_readWorld_39 : decode cX10_readWorld 39 = .ok (.ireturn, 1) := by decide +kernel
theorem dX10_readWorld_40 : decode cX10_readWorld 40 = .ok (.aload_n 0, 1) := by decide +kernel
theorem dX10_readWorld_41 : decode cX10_readWorld 41 = .ok (.dup, 1) := by decide +kernel
theorem dX10_readWorld_42 : decode cX10_readWorld 42 = .ok (.getfield 211, 3) := by decide +kernel
theorem dX10_readWorld_45 : decode cX10_readWorld 45 = .ok (.iconst 1, 1) := by decide +kernel
theorem dX10_readWorld_46 : decode cX10_readWorld 46 = .ok (.iadd, 1) := by decide +kernel
theorem dX10_readWorld_47 : decode cX10_readWorld 47 = .ok (.putfield 211, 3) := by decide +kernel
theorem dX10_readWorld_50 : decode cX10_readWorld 50 = .ok (.aload_n 0, 1) := by decide +kernel
theorem dX10_readWorld_51 : decode cX10_readWorld 51 = .ok (.bipush 58, 2) := by decide +kernel
theorem dX10_readWorld_53 : decode cX10_readWorld 53 = .ok (.invokevirtual 227, 3) := by decide +kernel
theorem dX10_readWorld_56 : decode cX10_readWorld 56 = .ok (.ifCond .eq 13, 3) := by decide +kernel
theorem dX10_readWorld_59 : decode cX10_readWorld 59 = .ok (.aload_n 0, 1) := by decide +kernel
theorem dX10_readWorld_60 : decode cX10_readWorld 60 = .ok (.iload_n 2, 1) := by decide +kernel
theorem dX10_readWorld_61 : decode cX10_readWorld 61 = .ok (.invokevirtual 242, 3) := by decide +kernel
theorem dX10_readWorld_64 : decode cX10_readWorld 64 = .ok (.ifCond .ne 24, 3) := by decide +kernel
theorem dX10_readWorld_67 : decode cX10_readWorld 67 = .ok (.iconst 0, 1) := by decide +kernel
theorem dX10_readWorld_68 : decode cX10_readWorld 68 = .ok (.ireturn, 1) := by decide +kernel
theorem dX10_readWorld_69 : decode cX10_readWorld 69 = .ok (.aload_n 0, 1) := by decide +kernel
theorem dX10_readWorld_70 : decode cX10_readWorld 70 = .ok (.bipush 62, 2) := by decide +kernel
theorem dX10_readWorld_72 : decode cX10_readWorld 72 = .ok (.invokevirtual 227, 3) := by decide +kernel
theorem dX10_readWorld_75 : decode cX10_readWorld 75 = .ok (.ifCond .eq 11, 3) := by decide +kernel
theorem dX10_readWorld_78 : decode cX10_readWorld 78 = .ok (.aload_n 0, 1) := by decide +kernel
theorem dX10_readWorld_79 : decode cX10_readWorld 79 = .ok (.iload_n 2, 1) := by decide +kernel
theorem dX10_readWorld_80 : decode cX10_readWorld 80 = .ok (.invokevirtual 245, 3) := by decide +kernel
theorem dX10_readWorld_83 : decode cX10_readWorld 83 = .ok (.ifCond .ne 5, 3) := by decide +kernel
theorem dX10_readWorld_86 : decode cX10_readWorld 86 = .ok (.iconst 0, 1) := by decide +kernel
theorem dX10_readWorld_87 : decode cX10_readWorld 87 = .ok (.ireturn, 1) := by decide +kernel
theorem dX10_readWorld_88 : decode cX10_readWorld 88 = .ok (.aload_n 0, 1) := by decide +kernel
theorem dX10_readWorld_89 : decode cX10_readWorld 89 = .ok (.invokevirtual 214, 3) := by decide +kernel
theorem dX10_readWorld_92 : decode cX10_readWorld 92 = .ok (.istore_n 3, 1) := by decide +kernel
theorem dX10_readWorld_93 : decode cX10_readWorld 93 = .ok (.iload_n 3, 1) := by decide +kernel
theorem dX10_readWorld_94 : decode cX10_readWorld 94 = .ok (.ifCond .ge 5, 3) := by decide +kernel
theorem dX10_readWorld_97 : decode cX10_readWorld 97 = .ok (.iconst 1, 1) := by decide +kernel
theorem dX10_readWorld_98 : decode cX10_readWorld 98 = .ok (.ireturn, 1) := by decide +kernel
theorem dX10_readWorld_99 : decode cX10_readWorld 99 = .ok (.iload_n 3, 1) := by decide +kernel
theorem dX10_readWorld_100 : decode cX10_readWorld 100 = .ok (.bipush 59, 2) := by decide +kernel
theorem dX10_readWorld_102 : decode cX10_readWorld 102 = .ok (.if_icmp .ne 9, 3) := by decide +kernel
theorem dX10_readWorld_105 : decode cX10_readWorld 105 = .ok (.iload_n 1, 1) := by decide +kernel
theorem dX10_readWorld_106 : decode cX10_readWorld 106 = .ok (.bipush 11, 2) := by decide +kernel
theorem dX10_readWorld_108 : decode cX10_readWorld 108 = .ok (.if_icmp .ne 5, 3) := by decide +kernel
theorem dX10_readWorld_111 : decode cX10_readWorld 111 = .ok (.iconst 0, 1) := by decide +kernel
theorem dX10_readWorld_112 : decode cX10_readWorld 112 = .ok (.ireturn, 1) := by decide +kernel
theorem dX10_readWorld_113 : decode cX10_readWorld 113 = .ok (.aload_n 0, 1) := by decide +kernel
theorem dX10_readWorld_114 : decode cX10_readWorld 114 = .ok (.dup, 1) := by decide +kernel
theorem dX10_readWorld_115 : decode cX10_readWorld 115 = .ok (.getfield 211, 3) := by decide +kernel
theorem dX10_readWorld_118 : decode cX10_readWorld 118 = .ok (.iconst 1, 1) := by decide +kernel
theorem dX10_readWorld_119 : decode cX10_readWorld 119 = .ok (.iadd, 1) := by decide +kernel
theorem dX10_readWorld_120 : decode cX10_readWorld 120 = .ok (.putfield 211, 3) := by decide +kernel
theorem dX10_readWorld_123 : decode cX10_readWorld 123 = .ok (.iinc 1 1, 3) := by decide +kernel
theorem dX10_readWorld_126 : decode cX10_readWorld 126 = .ok (.goto (-109), 3) := by decide +kernel
theorem dX10_world_0 : decode cX10_world 0 = .ok (.aload_n 0, 1) := by decide +kernel
theorem dX10_world_1 : decode cX10_world 1 = .ok (.invokevirtual 248, 3) := by decide +kernel
theorem dX10_world_4 : decode cX10_world 4 = .ok (.istore_n 1, 1) := by decide +kernel
theorem dX10_world_5 : decode cX10_world 5 = .ok (.aload_n 0, 1) := by decide +kernel
theorem dX10_world_6 : decode cX10_world 6 = .ok (.iconst 0, 1) := by decide +kernel
theorem dX10_world_7 : decode cX10_world 7 = .ok (.putfield 208, 3) := by decide +kernel
theorem dX10_world_10 : decode cX10_world 10 = .ok (.iload_n 1, 1) := by decide +kernel
theorem dX10_world_11 : decode cX10_world 11 = .ok (.ifCond .ne 11, 3) := by decide +kernel
theorem dX10_world_14 : decode cX10_world 14 = .ok (.bipush (-20), 2) := by decide +kernel
theorem dX10_world_16 : decode cX10_world 16 = .ok (.aload_n 0, 1) := by decide +kernel
theorem dX10_world_17 : decode cX10_world 17 = .ok (.getfield 211, 3) := by decide +kernel
theorem dX10_world_20 : decode cX10_world 20 = .ok (.isub, 1) := by decide +kernel
theorem dX10_world_21 : decode cX10_world 21 = .ok (.ireturn, 1) := by decide +kernel
theorem dX10_world_22 : decode cX10_world 22 = .ok (.aload_n 0, 1) := by decide +kernel
theorem dX10_world_23 : decode cX10_world 23 = .ok (.getfield 80, 3) := by decide +kernel
theorem dX10_world_26 : decode cX10_world 26 = .ok (.aload_n 0, 1) := by decide +kernel
theorem dX10_world_27 : decode cX10_world 27 = .ok (.getfield 221, 3) := by decide +kernel
theorem dX10_world_30 : decode cX10_world 30 = .ok (.iadd, 1) := by decide +kernel
theorem dX10_world_31 : decode cX10_world 31 = .ok (.bipush 24, 2) := by decide +kernel
theorem dX10_world_33 : decode cX10_world 33 = .ok (.if_icmp .gt 17, 3) := by decide +kernel
theorem dX10_world_36 : decode cX10_world 36 = .ok (.aload_n 0, 1) := by decide +kernel
theorem dX10_world_37 : decode cX10_world 37 = .ok (.getfield 77, 3) := by decide +kernel
theorem dX10_world_40 : decode cX10_world 40 = .ok (.aload_n 0, 1) := by decide +kernel
theorem dX10_world_41 : decode cX10_world 41 = .ok (.getfield 233, 3) := by decide +kernel
theorem dX10_world_44 : decode cX10_world 44 = .ok (.iadd, 1) := by decide +kernel
theorem dX10_world_45 : decode cX10_world 45 = .ok (.bipush 12, 2) := by decide +kernel
theorem dX10_world_47 : decode cX10_world 47 = .ok (.if_icmp .le 6, 3) := by decide +kernel
theorem dX10_world_50 : decode cX10_world 50 = .ok (.bipush (-3), 2) := by decide +kernel
theorem dX10_world_52 : decode cX10_world 52 = .ok (.ireturn, 1) := by decide +kernel
theorem dX10_world_53 : decode cX10_world 53 = .ok (.iconst 0, 1) := by decide +kernel
theorem dX10_world_54 : decode cX10_world 54 = .ok (.istore_n 2, 1) := by decide +kernel
theorem dX10_world_55 : decode cX10_world 55 = .ok (.iload_n 2, 1) := by decide +kernel
theorem dX10_world_56 : decode cX10_world 56 = .ok (.aload_n 0, 1) := by decide +kernel
theorem dX10_world_57 : decode cX10_world 57 = .ok (.getfield 221, 3) := by decide +kernel
theorem dX10_world_60 : decode cX10_world 60 = .ok (.if_icmp .ge 64, 3) := by decide +kernel
theorem dX10_world_63 : decode cX10_world 63 = .ok (.bipush 6, 2) := by decide +kernel
theorem dX10_world_65 : decode cX10_world 65 = .ok (.iload_n 2, 1) := by decide +kernel
theorem dX10_world_66 : decode cX10_world 66 = .ok (.imul, 1) := by decide +kernel
theorem dX10_world_67 : decode cX10_world 67 = .ok (.istore_n 3, 1) := by decide +kernel
theorem dX10_world_68 : decode cX10_world 68 = .ok (.aload_n 0, 1) := by decide +kernel
theorem dX10_world_69 : decode cX10_world 69 = .ok (.aload_n 0, 1) := by decide +kernel
theorem dX10_world_70 : decode cX10_world 70 = .ok (.getfield 43, 3) := by decide +kernel
theorem dX10_world_73 : decode cX10_world 73 = .ok (.iload_n 3, 1) := by decide +kernel
theorem dX10_world_74 : decode cX10_world 74 = .ok (.iaload, 1) := by decide +kernel
theorem dX10_world_75 : decode cX10_world 75 = .ok (.aload_n 0, 1) := by decide +kernel
theorem dX10_world_76 : decode cX10_world 76 = .ok (.getfield 43, 3) := by decide +kernel
theorem dX10_world_79 : decode cX10_world 79 = .ok (.iload_n 3, 1) := by decide +kernel
theorem dX10_world_80 : decode cX10_world 80 = .ok (.iconst 1, 1) := by decide +kernel
theorem dX10_world_81 : decode cX10_world 81 = .ok (.iadd, 1) := by decide +kernel
theorem dX10_world_82 : decode cX10_world 82 = .ok (.iaload, 1) := by decide +kernel
theorem dX10_world_83 : decode cX10_world 83 = .ok (.aload_n 0, 1) := by decide +kernel
theorem dX10_world_84 : decode cX10_world 84 = .ok (.getfield 43, 3) := by decide +kernel
theorem dX10_world_87 : decode cX10_world 87 = .ok (.iload_n 3, 1) := by decide +kernel
theorem dX10_world_88 : decode cX10_world 88 = .ok (.iconst 2, 1) := by decide +kernel
theorem dX10_world_89 : decode cX10_world 89 = .ok (.iadd, 1) := by decide +kernel
theorem dX10_world_90 : decode cX10_world 90 = .ok (.iaload, 1) := by decide +kernel
theorem dX10_world_91 : decode cX10_world 91 = .ok (.aload_n 0, 1) := by decide +kernel
theorem dX10_world_92 : decode cX10_world 92 = .ok (.getfield 43, 3) := by decide +kernel
theorem dX10_world_95 : decode cX10_world 95 = .ok (.iload_n 3, 1) := by decide +kernel
theorem dX10_world_96 : decode cX10_world 96 = .ok (.iconst 3, 1) := by decide +kernel
theorem dX10_world_97 : decode cX10_world 97 = .ok (.iadd, 1) := by decide +kernel
theorem dX10_world_98 : decode cX10_world 98 = .ok (.iaload, 1) := by decide +kernel
theorem dX10_world_99 : decode cX10_world 99 = .ok (.aload_n 0, 1) := by decide +kernel
theorem dX10_world_100 : decode cX10_world 100 = .ok (.getfield 43, 3) := by decide +kernel
theorem dX10_world_103 : decode cX10_world 103 = .ok (.iload_n 3, 1) := by decide +kernel
theorem dX10_world_104 : decode cX10_world 104 = .ok (.iconst 4, 1) := by decide +kernel
theorem dX10_world_105 : decode cX10_world 105 = .ok (.iadd, 1) := by decide +kernel
theorem dX10_world_106 : decode cX10_world 106 = .ok (.iaload, 1) := by decide +kernel
theorem dX10_world_107 : decode cX10_world 107 = .ok (.aload_n 0, 1) := by decide +kernel
theorem dX10_world_108 : decode cX10_world 108 = .ok (.getfield 43, 3) := by decide +kernel
theorem dX10_world_111 : decode cX10_world 111 = .ok (.iload_n 3, 1) := by decide +kernel
theorem dX10_world_112 : decode cX10_world 112 = .ok (.iconst 5, 1) := by decide +kernel
theorem dX10_world_113 : decode cX10_world 113 = .ok (.iadd, 1) := by decide +kernel
theorem dX10_world_114 : decode cX10_world 114 = .ok (.iaload, 1) := by decide +kernel
theorem dX10_world_115 : decode cX10_world 115 = .ok (.invokevirtual 91, 3) := by decide +kernel
theorem dX10_world_118 : decode cX10_world 118 = .ok (.iinc 2 1, 3) := by decide +kernel
theorem dX10_world_121 : decode cX10_world 121 = .ok (.goto (-66), 3) := by decide +kernel
theorem dX10_world_124 : decode cX10_world 124 = .ok (.iconst 0, 1) := by decide +kernel
theorem dX10_world_125 : decode cX10_world 125 = .ok (.istore_n 2, 1) := by decide +kernel
theorem dX10_world_126 : decode cX10_world 126 = .ok (.iload_n 2, 1) := by decide +kernel
theorem dX10_world_127 : decode cX10_world 127 = .ok (.aload_n 0, 1) := by decide +kernel
theorem dX10_world_128 : decode cX10_world 128 = .ok (.getfield 233, 3) := by decide +kernel
theorem dX10_world_131 : decode cX10_world 131 = .ok (.if_icmp .ge 76, 3) := by decide +kernel
theorem dX10_world_134 : decode cX10_world 134 = .ok (.bipush 8, 2) := by decide +kernel
theorem dX10_world_136 : decode cX10_world 136 = .ok (.iload_n 2, 1) := by decide +kernel
theorem dX10_world_137 : decode cX10_world 137 = .ok (.imul, 1) := by decide +kernel
theorem dX10_world_138 : decode cX10_world 138 = .ok (.istore_n 3, 1) := by decide +kernel
theorem dX10_world_139 : decode cX10_world 139 = .ok (.aload_n 0, 1) := by decide +kernel
theorem dX10_world_140 : decode cX10_world 140 = .ok (.aload_n 0, 1) := by decide +kernel
theorem dX10_world_141 : decode cX10_world 141 = .ok (.getfield 46, 3) := by decide +kernel
theorem dX10_world_144 : decode cX10_world 144 = .ok (.iload_n 3, 1) := by decide +kernel
theorem dX10_world_145 : decode cX10_world 145 = .ok (.iaload, 1) := by decide +kernel
theorem dX10_world_146 : decode cX10_world 146 = .ok (.aload_n 0, 1) := by decide +kernel
theorem dX10_world_147 : decode cX10_world 147 = .ok (.getfield 46, 3) := by decide +kernel
theorem dX10_world_150 : decode cX10_world 150 = .ok (.iload_n 3, 1) := by decide +kernel
theorem dX10_world_151 : decode cX10_world 151 = .ok (.iconst 1, 1) := by decide +kernel
theorem dX10_world_152 : decode cX10_world 152 = .ok (.iadd, 1) := by decide +kernel
theorem dX10_world_153 : decode cX10_world 153 = .ok (.iaload, 1) := by decide +kernel
theorem dX10_world_154 : decode cX10_world 154 = .ok (.aload_n 0, 1) := by decide +kernel
theorem dX10_world_155 : decode cX10_world 155 = .ok (.getfield 46, 3) := by decide +kernel
theorem dX10_world_158 : decode cX10_world 158 = .ok (.iload_n 3, 1) := by decide +kernel
theorem dX10_world_159 : decode cX10_world 159 = .ok (.iconst 2, 1) := by decide +kernel
theorem dX10_world_160 : decode cX10_world 160 = .ok (.iadd, 1) := by decide +kernel
theorem dX10_world_161 : decode cX10_world 161 = .ok (.iaload, 1) := by decide +kernel
theorem dX10_world_162 : decode cX10_world 162 = .ok (.aload_n 0, 1) := by decide +kernel
theorem dX10_world_163 : decode cX10_world 163 = .ok (.getfield 46, 3) := by decide +kernel
theorem dX10_world_166 : decode cX10_world 166 = .ok (.iload_n 3, 1) := by decide +kernel
theorem dX10_world_167 : decode cX10_world 167 = .ok (.iconst 3, 1) := by decide +kernel
theorem dX10_world_168 : decode cX10_world 168 = .ok (.iadd, 1) := by decide +kernel
theorem dX10_world_169 : decode cX10_world 169 = .ok (.iaload, 1) := by decide +kernel
theorem dX10_world_170 : decode cX10_world 170 = .ok (.iconst 0, 1) := by decide +kernel
theorem dX10_world_171 : decode cX10_world 171 = .ok (.aload_n 0, 1) := by decide +kernel
theorem dX10_world_172 : decode cX10_world 172 = .ok (.getfield 46, 3) := by decide +kernel
theorem dX10_world_175 : decode cX10_world 175 = .ok (.iload_n 3, 1) := by decide +kernel
theorem dX10_world_176 : decode cX10_world 176 = .ok (.iconst 5, 1) := by decide +kernel
theorem dX10_world_177 : decode cX10_world 177 = .ok (.iadd, 1) := by decide +kernel
theorem dX10_world_178 : decode cX10_world 178 = .ok (.iaload, 1) := by decide +kernel
theorem dX10_world_179 : decode cX10_world 179 = .ok (.aload_n 0, 1) := by decide +kernel
theorem dX10_world_180 : decode cX10_world 180 = .ok (.getfield 46, 3) := by decide +kernel
theorem dX10_world_183 : decode cX10_world 183 = .ok (.iload_n 3, 1) := by decide +kernel
theorem dX10_world_184 : decode cX10_world 184 = .ok (.bipush 6, 2) := by decide +kernel
theorem dX10_world_186 : decode cX10_world 186 = .ok (.iadd, 1) := by decide +kernel
theorem dX10_world_187 : decode cX10_world 187 = .ok (.iaload, 1) := by decide +kernel
theorem dX10_world_188 : decode cX10_world 188 = .ok (.aload_n 0, 1) := by decide +kernel
theorem dX10_world_189 : decode cX10_world 189 = .ok (.getfield 46, 3) := by decide +kernel
theorem dX10_world_192 : decode cX10_world 192 = .ok (.iload_n 3, 1) := by decide +kernel
theorem dX10_world_193 : decode cX10_world 193 = .ok (.bipush 7, 2) := by decide +kernel
theorem dX10_world_195 : decode cX10_world 195 = .ok (.iadd, 1) := by decide +kernel
theorem dX10_world_196 : decode cX10_world 196 = .ok (.iaload, 1) := by decide +kernel
theorem dX10_world_197 : decode cX10_world 197 = .ok (.invokevirtual 105, 3) := by decide +kernel
theorem dX10_world_200 : decode cX10_world 200 = .ok (.pop, 1) := by decide +kernel
theorem dX10_world_201 : decode cX10_world 201 = .ok (.iinc 2 1, 3) := by decide +kernel
theorem dX10_world_204 : decode cX10_world 204 = .ok (.goto (-78), 3) := by decide +kernel
theorem dX10_world_207 : decode cX10_world 207 = .ok (.aload_n 0, 1) := by decide +kernel
theorem dX10_world_208 : decode cX10_world 208 = .ok (.getfield 221, 3) := by decide +kernel
theorem dX10_world_211 : decode cX10_world 211 = .ok (.aload_n 0, 1) := by decide +kernel
theorem dX10_world_212 : decode cX10_world 212 = .ok (.getfield 233, 3) := by decide +kernel
theorem dX10_world_215 : decode cX10_world 215 = .ok (.iadd, 1) := by decide +kernel
theorem dX10_world_216 : decode cX10_world 216 = .ok (.ireturn, 1) := by decide +kernel
theorem dX10_keep_0 : decode cX10_keep 0 = .ok (.iconst 0, 1) := by decide +kernel
theorem dX10_keep_1 : decode cX10_keep 1 = .ok (.istore_n 2, 1) := by decide +kernel
theorem dX10_keep_2 : decode cX10_keep 2 = .ok (.iload_n 2, 1) := by decide +kernel
theorem dX10_keep_3 : decode cX10_keep 3 = .ok (.aload_n 1, 1) := by decide +kernel
theorem dX10_keep_4 : decode cX10_keep 4 = .ok (.arraylength, 1) := by decide +kernel
theorem dX10_keep_5 : decode cX10_keep 5 = .ok (.if_icmp .ge 31, 3) := by decide +kernel
theorem dX10_keep_8 : decode cX10_keep 8 = .ok (.aload_n 0, 1) := by decide +kernel
theorem dX10_keep_9 : decode cX10_keep 9 = .ok (.getfield 49, 3) := by decide +kernel
theorem dX10_keep_12 : decode cX10_keep 12 = .ok (.aload_n 0, 1) := by decide +kernel
theorem dX10_keep_13 : decode cX10_keep 13 = .ok (.getfield 252, 3) := by decide +kernel
theorem dX10_keep_16 : decode cX10_keep 16 = .ok (.aload_n 1, 1) := by decide +kernel
theorem dX10_keep_17 : decode cX10_keep 17 = .ok (.iload_n 2, 1) := by decide +kernel
theorem dX10_keep_18 : decode cX10_keep 18 = .ok (.iaload, 1) := by decide +kernel
theorem dX10_keep_19 : decode cX10_keep 19 = .ok (.iastore, 1) := by decide +kernel
theorem dX10_keep_20 : decode cX10_keep 20 = .ok (.aload_n 0, 1) := by decide +kernel
theorem dX10_keep_21 : decode cX10_keep 21 = .ok (.dup, 1) := by decide +kernel
theorem dX10_keep_22 : decode cX10_keep 22 = .ok (.getfield 252, 3) := by decide +kernel
theorem dX10_keep_25 : decode cX10_keep 25 = .ok (.iconst 1, 1) := by decide +kernel
theorem dX10_keep_26 : decode cX10_keep 26 = .ok (.iadd, 1) := by decide +kernel
theorem dX10_keep_27 : decode cX10_keep 27 = .ok (.putfield 252, 3) := by decide +kernel
theorem dX10_keep_30 : decode cX10_keep 30 = .ok (.iinc 2 1, 3) := by decide +kernel
theorem dX10_keep_33 : decode cX10_keep 33 = .ok (.goto (-31), 3) := by decide +kernel
theorem dX10_keep_36 : decode cX10_keep 36 = .ok (.return_, 1) := by decide +kernel
theorem dX10_bring_0 : decode cX10_bring 0 = .ok (.iconst 0, 1) := by decide +kernel
theorem dX10_bring_1 : decode cX10_bring 1 = .ok (.istore_n 2, 1) := by decide +kernel
theorem dX10_bring_2 : decode cX10_bring 2 = .ok (.iload_n 2, 1) := by decide +kernel
theorem dX10_bring_3 : decode cX10_bring 3 = .ok (.aload_n 1, 1) := by decide +kernel
theorem dX10_bring_4 : decode cX10_bring 4 = .ok (.arraylength, 1) := by decide +kernel
theorem dX10_bring_5 : decode cX10_bring 5 = .ok (.if_icmp .ge 31, 3) := by decide +kernel
theorem dX10_bring_8 : decode cX10_bring 8 = .ok (.aload_n 1, 1) := by decide +kernel
theorem dX10_bring_9 : decode cX10_bring 9 = .ok (.iload_n 2, 1) := by decide +kernel
theorem dX10_bring_10 : decode cX10_bring 10 = .ok (.aload_n 0, 1) := by decide +kernel
theorem dX10_bring_11 : decode cX10_bring 11 = .ok (.getfield 49, 3) := by decide +kernel
theorem dX10_bring_14 : decode cX10_bring 14 = .ok (.aload_n 0, 1) := by decide +kernel
theorem dX10_bring_15 : decode cX10_bring 15 = .ok (.getfield 252, 3) := by decide +kernel
theorem dX10_bring_18 : decode cX10_bring 18 = .ok (.iaload, 1) := by decide +kernel
theorem dX10_bring_19 : decode cX10_bring 19 = .ok (.iastore, 1) := by decide +kernel
theorem dX10_bring_20 : decode cX10_bring 20 = .ok (.aload_n 0, 1) := by decide +kernel
theorem dX10_bring_21 : decode cX10_bring 21 = .ok (.dup, 1) := by decide +kernel
theorem dX10_bring_22 : decode cX10_bring 22 = .ok (.getfield 252, 3) := by decide +kernel
theorem dX10_bring_25 : decode cX10_bring 25 = .ok (.iconst 1, 1) := by decide +kernel
theorem dX10_bring_26 : decode cX10_bring 26 = .ok (.iadd, 1) := by decide +kernel
theorem dX10_bring_27 : decode cX10_bring 27 = .ok (.putfield 252, 3) := by decide +kernel
theorem dX10_bring_30 : decode cX10_bring 30 = .ok (.iinc 2 1, 3) := by decide +kernel
theorem dX10_bring_33 : decode cX10_bring 33 = .ok (.goto (-31), 3) := by decide +kernel
theorem dX10_bring_36 : decode cX10_bring 36 = .ok (.return_, 1) := by decide +kernel
theorem dX10_image_0 : decode cX10_image 0 = .ok (.aload_n 0, 1) := by decide +kernel
theorem dX10_image_1 : decode cX10_image 1 = .ok (.iconst 0, 1) := by decide +kernel
theorem dX10_image_2 : decode cX10_image 2 = .ok (.putfield 252, 3) := by decide +kernel
theorem dX10_image_5 : decode cX10_image 5 = .ok (.aload_n 0, 1) := by decide +kernel
theorem dX10_image_6 : decode cX10_image 6 = .ok (.getfield 52, 3) := by decide +kernel
theorem dX10_image_9 : decode cX10_image 9 = .ok (.iconst 0, 1) := by decide +kernel
theorem dX10_image_10 : decode cX10_image 10 = .ok (.aload_n 0, 1) := by decide +kernel
theorem dX10_image_11 : decode cX10_image 11 = .ok (.getfield 80, 3) := by decide +kernel
theorem dX10_image_14 : decode cX10_image 14 = .ok (.iastore, 1) := by decide +kernel
theorem dX10_image_15 : decode cX10_image 15 = .ok (.aload_n 0, 1) := by decide +kernel
theorem dX10_image_16 : decode cX10_image 16 = .ok (.getfield 52, 3) := by decide +kernel
theorem dX10_image_19 : decode cX10_image 19 = .ok (.iconst 1, 1) := by decide +kernel
theorem dX10_image_20 : decode cX10_image 20 = .ok (.aload_n 0, 1) := by decide +kernel
theorem dX10_image_21 : decode cX10_image 21 = .ok (.getfield 73, 3) := by decide +kernel
theorem dX10_image_24 : decode cX10_image 24 = .ok (.iastore, 1) := by decide +kernel
theorem dX10_image_25 : decode cX10_image 25 = .ok (.aload_n 0, 1) := by decide +kernel
theorem dX10_image_26 : decode cX10_image 26 = .ok (.getfield 52, 3) := by decide +kernel
theorem dX10_image_29 : decode cX10_image 29 = .ok (.iconst 2, 1) := by decide +kernel
theorem dX10_image_30 : decode cX10_image 30 = .ok (.aload_n 0, 1) := by decide +kernel
theorem dX10_image_31 : decode cX10_image 31 = .ok (.getfield 77, 3) := by decide +kernel
theorem dX10_image_34 : decode cX10_image 34 = .ok (.iastore, 1) := by decide +kernel
theorem dX10_image_35 : decode cX10_image 35 = .ok (.aload_n 0, 1) := by decide +kernel
theorem dX10_image_36 : decode cX10_image 36 = .ok (.getfield 52, 3) := by decide +kernel
theorem dX10_image_39 : decode cX10_image 39 = .ok (.iconst 3, 1) := by decide +kernel
theorem dX10_image_40 : decode cX10_image 40 = .ok (.aload_n 0, 1) := by decide +kernel
theorem dX10_image_41 : decode cX10_image 41 = .ok (.getfield 126, 3) := by decide +kernel
theorem dX10_image_44 : decode cX10_image 44 = .ok (.iastore, 1) := by decide +kernel
theorem dX10_image_45 : decode cX10_image 45 = .ok (.aload_n 0, 1) := by decide +kernel
theorem dX10_image_46 : decode cX10_image 46 = .ok (.aload_n 0, 1) := by decide +kernel
theorem dX10_image_47 : decode cX10_image 47 = .ok (.getfield 52, 3) := by decide +kernel
theorem dX10_image_50 : decode cX10_image 50 = .ok (.invokevirtual 255, 3) := by decide +kernel
theorem dX10_image_53 : decode cX10_image 53 = .ok (.aload_n 0, 1) := by decide +kernel
theorem dX10_image_54 : decode cX10_image 54 = .ok (.aload_n 0, 1) := by decide +kernel
theorem dX10_image_55 : decode cX10_image 55 = .ok (.getfield 7, 3) := by decide +kernel
theorem dX10_image_58 : decode cX10_image 58 = .ok (.invokevirtual 255, 3) := by decide +kernel
theorem dX10_image_61 : decode cX10_image 61 = .ok (.aload_n 0, 1) := by decide +kernel
theorem dX10_image_62 : decode cX10_image 62 = .ok (.aload_n 0, 1) := by decide +kernel
theorem dX10_image_63 : decode cX10_image 63 = .ok (.getfield 13, 3) := by decide +kernel
theorem dX10_image_66 : decode cX10_image 66 = .ok (.invokevirtual 255, 3) := by decide +kernel
theorem dX10_image_69 : decode cX10_image 69 = .ok (.aload_n 0, 1) := by decide +kernel
theorem dX10_image_70 : decode cX10_image 70 = .ok (.aload_n 0, 1) := by decide +kernel
theorem dX10_image_71 : decode cX10_image 71 = .ok (.getfield 16, 3) := by decide +kernel
theorem dX10_image_74 : decode cX10_image 74 = .ok (.invokevirtual 255, 3) := by decide +kernel
theorem dX10_image_77 : decode cX10_image 77 = .ok (.aload_n 0, 1) := by decide +kernel
theorem dX10_image_78 : decode cX10_image 78 = .ok (.aload_n 0, 1) := by decide +kernel
theorem dX10_image_79 : decode cX10_image 79 = .ok (.getfield 19, 3) := by decide +kernel
theorem dX10_image_82 : decode cX10_image 82 = .ok (.invokevirtual 255, 3) := by decide +kernel
theorem dX10_image_85 : decode cX10_image 85 = .ok (.aload_n 0, 1) := by decide +kernel
theorem dX10_image_86 : decode cX10_image 86 = .ok (.aload_n 0, 1) := by decide +kernel
theorem dX10_image_87 : decode cX10_image 87 = .ok (.getfield 22, 3) := by decide +kernel
theorem dX10_image_90 : decode cX10_image 90 = .ok (.invokevirtual 255, 3) := by decide +kernel
theorem dX10_image_93 : decode cX10_image 93 = .ok (.aload_n 0, 1) := by decide +kernel
theorem dX10_image_94 : decode cX10_image 94 = .ok (.iconst 1, 1) := by decide +kernel
theorem dX10_image_95 : decode cX10_image 95 = .ok (.putfield 259, 3) := by decide +kernel
theorem dX10_image_98 : decode cX10_image 98 = .ok (.iconst 1, 1) := by decide +kernel
theorem dX10_image_99 : decode cX10_image 99 = .ok (.ireturn, 1) := by decide +kernel
theorem dX10_restore_0 : decode cX10_restore 0 = .ok (.aload_n 0, 1) := by decide +kernel
theorem dX10_restore_1 : decode cX10_restore 1 = .ok (.getfield 259, 3) := by decide +kernel
theorem dX10_restore_4 : decode cX10_restore 4 = .ok (.ifCond .ne 6, 3) := by decide +kernel
theorem dX10_restore_7 : decode cX10_restore 7 = .ok (.bipush (-4), 2) := by decide +kernel
theorem dX10_restore_9 : decode cX10_restore 9 = .ok (.ireturn, 1) := by decide +kernel
theorem dX10_restore_10 : decode cX10_restore 10 = .ok (.aload_n 0, 1) := by decide +kernel
theorem dX10_restore_11 : decode cX10_restore 11 = .ok (.iconst 0, 1) := by decide +kernel
theorem dX10_restore_12 : decode cX10_restore 12 = .ok (.putfield 252, 3) := by decide +kernel
theorem dX10_restore_15 : decode cX10_restore 15 = .ok (.aload_n 0, 1) := by decide +kernel
theorem dX10_restore_16 : decode cX10_restore 16 = .ok (.aload_n 0, 1) := by decide +kernel
theorem dX10_restore_17 : decode cX10_restore 17 = .ok (.getfield 52, 3) := by decide +kernel
theorem dX10_restore_20 : decode cX10_restore 20 = .ok (.invokevirtual 263, 3) := by decide +kernel
theorem dX10_restore_23 : decode cX10_restore 23 = .ok (.aload_n 0, 1) := by decide +kernel
theorem dX10_restore_24 : decode cX10_restore 24 = .ok (.aload_n 0, 1) := by decide +kernel
theorem dX10_restore_25 : decode cX10_restore 25 = .ok (.getfield 52, 3) := by decide +kernel
theorem dX10_restore_28 : decode cX10_restore 28 = .ok (.iconst 0, 1) := by decide +kernel
theorem dX10_restore_29 : decode cX10_restore 29 = .ok (.iaload, 1) := by decide +kernel
theorem dX10_restore_30 : decode cX10_restore 30 = .ok (.putfield 80, 3) := by decide +kernel
theorem dX10_restore_33 : decode cX10_restore 33 = .ok (.aload_n 0, 1) := by decide +kernel
theorem dX10_restore_34 : decode cX10_restore 34 = .ok (.aload_n 0, 1) := by decide +kernel
theorem dX10_restore_35 : decode cX10_restore 35 = .ok (.getfield 52, 3) := by decide +kernel
theorem dX10_restore_38 : decode cX10_restore 38 = .ok (.iconst 1, 1) := by decide +kernel
theorem dX10_restore_39 : decode cX10_restore 39 = .ok (.iaload, 1) := by decide +kernel
theorem dX10_restore_40 : decode cX10_restore 40 = .ok (.putfield 73, 3) := by decide +kernel
theorem dX10_restore_43 : decode cX10_restore 43 = .ok (.aload_n 0, 1) := by decide +kernel
theorem dX10_restore_44 : decode cX10_restore 44 = .ok (.aload_n 0, 1) := by decide +kernel
theorem dX10_restore_45 : decode cX10_restore 45 = .ok (.getfield 52, 3) := by decide +kernel
theorem dX10_restore_48 : decode cX10_restore 48 = .ok (.iconst 2, 1) := by decide +kernel
theorem dX10_restore_49 : decode cX10_restore 49 = .ok (.iaload, 1) := by decide +kernel
theorem dX10_restore_50 : decode cX10_restore 50 = .ok (.putfield 77, 3) := by decide +kernel
theorem dX10_restore_53 : decode cX10_restore 53 = .ok (.aload_n 0, 1) := by decide +kernel
theorem dX10_restore_54 : decode cX10_restore 54 = .ok (.aload_n 0, 1) := by decide +kernel
theorem dX10_restore_55 : decode cX10_restore 55 = .ok (.getfield 52, 3) := by decide +kernel
theorem dX10_restore_58 : decode cX10_restore 58 = .ok (.iconst 3, 1) := by decide +kernel
theorem dX10_restore_59 : decode cX10_restore 59 = .ok (.iaload, 1) := by decide +kernel
theorem dX10_restore_60 : decode cX10_restore 60 = .ok (.putfield 126, 3) := by decide +kernel
theorem dX10_restore_63 : decode cX10_restore 63 = .ok (.aload_n 0, 1) := by decide +kernel
theorem dX10_restore_64 : decode cX10_restore 64 = .ok (.aload_n 0, 1) := by decide +kernel
theorem dX10_restore_65 : decode cX10_restore 65 = .ok (.getfield 7, 3) := by decide +kernel
theorem dX10_restore_68 : decode cX10_restore 68 = .ok (.invokevirtual 263, 3) := by decide +kernel
theorem dX10_restore_71 : decode cX10_restore 71 = .ok (.aload_n 0, 1) := by decide +kernel
theorem dX10_restore_72 : decode cX10_restore 72 = .ok (.aload_n 0, 1) := by decide +kernel
theorem dX10_restore_73 : decode cX10_restore 73 = .ok (.getfield 13, 3) := by decide +kernel
theorem dX10_restore_76 : decode cX10_restore 76 = .ok (.invokevirtual 263, 3) := by decide +kernel
theorem dX10_restore_79 : decode cX10_restore 79 = .ok (.aload_n 0, 1) := by decide +kernel
theorem dX10_restore_80 : decode cX10_restore 80 = .ok (.aload_n 0, 1) := by decide +kernel
theorem dX10_restore_81 : decode cX10_restore 81 = .ok (.getfield 16, 3) := by decide +kernel
theorem dX10_restore_84 : decode cX10_restore 84 = .ok (.invokevirtual 263, 3) := by decide +kernel
theorem dX10_restore_87 : decode cX10_restore 87 = .ok (.aload_n 0, 1) := by decide +kernel
theorem dX10_restore_88 : decode cX10_restore 88 = .ok (.aload_n 0, 1) := by decide +kernel
theorem dX10_restore_89 : decode cX10_restore 89 = .ok (.getfield 19, 3) := by decide +kernel
theorem dX10_restore_92 : decode cX10_restore 92 = .ok (.invokevirtual 263, 3) := by decide +kernel
theorem dX10_restore_95 : decode cX10_restore 95 = .ok (.aload_n 0, 1) := by decide +kernel
theorem dX10_restore_96 : decode cX10_restore 96 = .ok (.aload_n 0, 1) := by decide +kernel
theorem dX10_restore_97 : decode cX10_restore 97 = .ok (.getfield 22, 3) := by decide +kernel
theorem dX10_restore_100 : decode cX10_restore 100 = .ok (.invokevirtual 263, 3) := by decide +kernel
theorem dX10_restore_103 : decode cX10_restore 103 = .ok (.iconst 1, 1) := by decide +kernel
theorem dX10_restore_104 : decode cX10_restore 104 = .ok (.ireturn, 1) := by decide +kernel
theorem dX10_isSheet_0 : decode cX10_isSheet 0 = .ok (.iload_n 0, 1) := by decide +kernel
theorem dX10_isSheet_1 : decode cX10_isSheet 1 = .ok (.i2l, 1) := by decide +kernel
theorem dX10_isSheet_2 : decode cX10_isSheet 2 = .ok (.lconst 0, 1) := by decide +kernel
theorem dX10_isSheet_3 : decode cX10_isSheet 3 = .ok (.ldc2_w 266, 3) := by decide +kernel
theorem dX10_isSheet_6 : decode cX10_isSheet 6 = .ok (.invokestatic 69, 3) := by decide +kernel
theorem dX10_isSheet_9 : decode cX10_isSheet 9 = .ok (.ifCond .eq 19, 3) := by decide +kernel
theorem dX10_isSheet_12 : decode cX10_isSheet 12 = .ok (.iload_n 1, 1) := by decide +kernel
theorem dX10_isSheet_13 : decode cX10_isSheet 13 = .ok (.i2l, 1) := by decide +kernel
theorem dX10_isSheet_14 : decode cX10_isSheet 14 = .ok (.lconst 0, 1) := by decide +kernel
theorem dX10_isSheet_15 : decode cX10_isSheet 15 = .ok (.ldc2_w 129, 3) := by decide +kernel
theorem dX10_isSheet_18 : decode cX10_isSheet 18 = .ok (.invokestatic 69, 3) := by decide +kernel
theorem dX10_isSheet_21 : decode cX10_isSheet 21 = .ok (.ifCond .eq 7, 3) := by decide +kernel
theorem dX10_isSheet_24 : decode cX10_isSheet 24 = .ok (.iconst 1, 1) := by decide +kernel
theorem dX10_isSheet_25 : decode cX10_isSheet 25 = .ok (.goto 4, 3) := by decide +kernel
theorem dX10_isSheet_28 : decode cX10_isSheet 28 = .ok (.iconst 0, 1) := by decide +kernel
theorem dX10_isSheet_29 : decode cX10_isSheet 29 = .ok (.ireturn, 1) := by decide +kernel
theorem dX10_sheet_0 : decode cX10_sheet 0 = .ok (.iload_n 1, 1) := by decide +kernel
theorem dX10_sheet_1 : decode cX10_sheet 1 = .ok (.iload_n 2, 1) := by decide +kernel
theorem dX10_sheet_2 : decode cX10_sheet 2 = .ok (.invokestatic 268, 3) := by decide +kernel
theorem dX10_sheet_5 : decode cX10_sheet 5 = .ok (.ifCond .eq 9, 3) := by decide +kernel
theorem dX10_sheet_8 : decode cX10_sheet 8 = .ok (.iload_n 3, 1) := by decide +kernel
theorem dX10_sheet_9 : decode cX10_sheet 9 = .ok (.bipush 16, 2) := by decide +kernel
theorem dX10_sheet_11 : decode cX10_sheet 11 = .ok (.if_icmp .le 5, 3) := by decide +kernel
theorem dX10_sheet_14 : decode cX10_sheet 14 = .ok (.iconst (-1), 1) := by decide +kernel
theorem dX10_sheet_15 : decode cX10_sheet 15 = .ok (.ireturn, 1) := by decide +kernel
theorem dX10_sheet_16 : decode cX10_sheet 16 = .ok (.iload_n 3, 1) := by decide +kernel
theorem dX10_sheet_17 : decode cX10_sheet 17 = .ok (.ifCond .ge 6, 3) := by decide +kernel
theorem dX10_sheet_20 : decode cX10_sheet 20 = .ok (.bipush (-14), 2) := by decide +kernel
theorem dX10_sheet_22 : decode cX10_sheet 22 = .ok (.ireturn, 1) := by decide +kernel
theorem dX10_sheet_23 : decode cX10_sheet 23 = .ok (.aload_n 0, 1) := by decide +kernel
theorem dX10_sheet_24 : decode cX10_sheet 24 = .ok (.getfield 55, 3) := by decide +kernel
theorem dX10_sheet_27 : decode cX10_sheet 27 = .ok (.iload_n 1, 1) := by decide +kernel
theorem dX10_sheet_28 : decode cX10_sheet 28 = .ok (.iload_n 2, 1) := by decide +kernel
theorem dX10_sheet_29 : decode cX10_sheet 29 = .ok (.iastore, 1) := by decide +kernel
theorem dX10_sheet_30 : decode cX10_sheet 30 = .ok (.aload_n 0, 1) := by decide +kernel
theorem dX10_sheet_31 : decode cX10_sheet 31 = .ok (.getfield 58, 3) := by decide +kernel
theorem dX10_sheet_34 : decode cX10_sheet 34 = .ok (.iload_n 1, 1) := by decide +kernel
theorem dX10_sheet_35 : decode cX10_sheet 35 = .ok (.iload_n 3, 1) := by decide +kernel
theorem dX10_sheet_36 : decode cX10_sheet 36 = .ok (.iastore, 1) := by decide +kernel
theorem dX10_sheet_37 : decode cX10_sheet 37 = .ok (.iconst 0, 1) := by decide +kernel
theorem dX10_sheet_38 : decode cX10_sheet 38 = .ok (.istore 4, 2) := by decide +kernel
theorem dX10_sheet_40 : decode cX10_sheet 40 = .ok (.iload 4, 2) := by decide +kernel
theorem dX10_sheet_42 : decode cX10_sheet 42 = .ok (.bipush 16, 2) := by decide +kernel
theorem dX10_sheet_44 : decode cX10_sheet 44 = .ok (.if_icmp .ge 22, 3) := by decide +kernel
theorem dX10_sheet_47 : decode cX10_sheet 47 = .ok (.aload_n 0, 1) := by decide +kernel
theorem dX10_sheet_48 : decode cX10_sheet 48 = .ok (.getfield 61, 3) := by decide +kernel
theorem dX10_sheet_51 : decode cX10_sheet 51 = .ok (.bipush 16, 2) := by decide +kernel
theorem dX10_sheet_53 : decode cX10_sheet 53 = .ok (.iload_n 1, 1) := by decide +kernel
theorem dX10_sheet_54 : decode cX10_sheet 54 = .ok (.imul, 1) := by decide +kernel
theorem dX10_sheet_55 : decode cX10_sheet 55 = .ok (.iload 4, 2) := by decide +kernel
theorem dX10_sheet_57 : decode cX10_sheet 57 = .ok (.iadd, 1) := by decide +kernel
theorem dX10_sheet_58 : decode cX10_sheet 58 = .ok (.iconst 0, 1) := by decide +kernel
theorem dX10_sheet_59 : decode cX10_sheet 59 = .ok (.iastore, 1) := by decide +kernel
theorem dX10_sheet_60 : decode cX10_sheet 60 = .ok (.iinc 4 1, 3) := by decide +kernel
theorem dX10_sheet_63 : decode cX10_sheet 63 = .ok (.goto (-23), 3) := by decide +kernel
theorem dX10_sheet_66 : decode cX10_sheet 66 = .ok (.iload_n 3, 1) := by decide +kernel
theorem dX10_sheet_67 : decode cX10_sheet 67 = .ok (.ireturn, 1) := by decide +kernel
theorem dX10_drop_0 : decode cX10_drop 0 = .ok (.iload_n 1, 1) := by decide +kernel
theorem dX10_drop_1 : decode cX10_drop 1 = .ok (.i2l, 1) := by decide +kernel
theorem dX10_drop_2 : decode cX10_drop 2 = .ok (.lconst 0, 1) := by decide +kernel
theorem dX10_drop_3 : decode cX10_drop 3 = .ok (.ldc2_w 266, 3) := by decide +kernel
theorem dX10_drop_6 : decode cX10_drop 6 = .ok (.invokestatic 69, 3) := by decide +kernel
theorem dX10_drop_9 : decode cX10_drop 9 = .ok (.ifCond .ne 5, 3) := by decide +kernel
theorem dX10_drop_12 : decode cX10_drop 12 = .ok (.iconst (-1), 1) := by decide +kernel
theorem dX10_drop_13 : decode cX10_drop 13 = .ok (.ireturn, 1) := by decide +kernel
theorem dX10_drop_14 : decode cX10_drop 14 = .ok (.aload_n 0, 1) := by decide +kernel
theorem dX10_drop_15 : decode cX10_drop 15 = .ok (.getfield 55, 3) := by decide +kernel
theorem dX10_drop_18 : decode cX10_drop 18 = .ok (.iload_n 1, 1) := by decide +kernel
theorem dX10_drop_19 : decode cX10_drop 19 = .ok (.iaload, 1) := by decide +kernel
theorem dX10_drop_20 : decode cX10_drop 20 = .ok (.ifCond .ge 6, 3) := by decide +kernel
theorem dX10_drop_23 : decode cX10_drop 23 = .ok (.bipush (-11), 2) := by decide +kernel
theorem dX10_drop_25 : decode cX10_drop 25 = .ok (.ireturn, 1) := by decide +kernel
theorem dX10_drop_26 : decode cX10_drop 26 = .ok (.aload_n 0, 1) := by decide +kernel
theorem dX10_drop_27 : decode cX10_drop 27 = .ok (.getfield 55, 3) := by decide +kernel
theorem dX10_drop_30 : decode cX10_drop 30 = .ok (.iload_n 1, 1) := by decide +kernel
theorem dX10_drop_31 : decode cX10_drop 31 = .ok (.iconst (-1), 1) := by decide +kernel
theorem dX10_drop_32 : decode cX10_drop 32 = .ok (.iastore, 1) := by decide +kernel
theorem dX10_drop_33 : decode cX10_drop 33 = .ok (.aload_n 0, 1) := by decide +kernel
theorem dX10_drop_34 : decode cX10_drop 34 = .ok (.getfield 58, 3) := by decide +kernel
theorem dX10_drop_37 : decode cX10_drop 37 = .ok (.iload_n 1, 1) := by decide +kernel
theorem dX10_drop_38 : decode cX10_drop 38 = .ok (.iaload, 1) := by decide +kernel
theorem dX10_drop_39 : decode cX10_drop 39 = .ok (.ireturn, 1) := by decide +kernel
theorem dX10_lacksRow_0 : decode cX10_lacksRow 0 = .ok (.aload_n 0, 1) := by decide +kernel
theorem dX10_lacksRow_1 : decode cX10_lacksRow 1 = .ok (.getfield 55, 3) := by decide +kernel
theorem dX10_lacksRow_4 : decode cX10_lacksRow 4 = .ok (.iload_n 1, 1) := by decide +kernel
theorem dX10_lacksRow_5 : decode cX10_lacksRow 5 = .ok (.iaload, 1) := by decide +kernel
theorem dX10_lacksRow_6 : decode cX10_lacksRow 6 = .ok (.iload_n 2, 1) := by decide +kernel
theorem dX10_lacksRow_7 : decode cX10_lacksRow 7 = .ok (.if_icmp .eq 20, 3) := by decide +kernel
theorem dX10_lacksRow_10 : decode cX10_lacksRow 10 = .ok (.aload_n 0, 1) := by decide +kernel
theorem dX10_lacksRow_11 : decode cX10_lacksRow 11 = .ok (.getfield 55, 3) := by decide +kernel
theorem dX10_lacksRow_14 : decode cX10_lacksRow 14 = .ok (.iload_n 1, 1) := by decide +kernel
theorem dX10_lacksRow_15 : decode cX10_lacksRow 15 = .ok (.iaload, 1) := by decide +kernel
theorem dX10_lacksRow_16 : decode cX10_lacksRow 16 = .ok (.ifCond .ge 8, 3) := by decide +kernel
theorem dX10_lacksRow_19 : decode cX10_lacksRow 19 = .ok (.bipush (-11), 2) := by decide +kernel
theorem dX10_lacksRow_21 : decode cX10_lacksRow 21 = .ok (.goto 5, 3) := by decide +kernel
theorem dX10_lacksRow_24 : decode cX10_lacksRow 24 = .ok (.bipush (-12), 2) := by decide +kernel
theorem dX10_lacksRow_26 : decode cX10_lacksRow 26 = .ok (.ireturn, 1) := by decide +kernel
theorem dX10_lacksRow_27 : decode cX10_lacksRow 27 = .ok (.iload_n 3, 1) := by decide +kernel
theorem dX10_lacksRow_28 : decode cX10_lacksRow 28 = .ok (.i2l, 1) := by decide +kernel
theorem dX10_lacksRow_29 : decode cX10_lacksRow 29 = .ok (.lconst 0, 1) := by decide +kernel
theorem dX10_lacksRow_30 : decode cX10_lacksRow 30 = .ok (.aload_n 0, 1) := by decide +kernel
theorem dX10_lacksRow_31 : decode cX10_lacksRow 31 = .ok (.getfield 58, 3) := by decide +kernel
theorem dX10_lacksRow_34 : decode cX10_lacksRow 34 = .ok (.iload_n 1, 1) := by decide +kernel
theorem dX10_lacksRow_35 : decode cX10_lacksRow 35 = .ok (.iaload, 1) := by decide +kernel
theorem dX10_lacksRow_36 : decode cX10_lacksRow 36 = .ok (.iload 4, 2) := by decide +kernel
theorem dX10_lacksRow_38 : decode cX10_lacksRow 38 = .ok (.isub, 1) := by decide +kernel
theorem dX10_lacksRow_39 : decode cX10_lacksRow 39 = .ok (.i2l, 1) := by decide +kernel
theorem dX10_lacksRow_40 : decode cX10_lacksRow 40 = .ok (.invokestatic 69, 3) := by decide +kernel
theorem dX10_lacksRow_43 : decode cX10_lacksRow 43 = .ok (.ifCond .eq 7, 3) := by decide +kernel
theorem dX10_lacksRow_46 : decode cX10_lacksRow 46 = .ok (.iconst 0, 1) := by decide +kernel
theorem dX10_lacksRow_47 : decode cX10_lacksRow 47 = .ok (.goto 5, 3) := by decide +kernel
theorem dX10_lacksRow_50 : decode cX10_lacksRow 50 = .ok (.bipush (-13), 2) := by decide +kernel
theorem dX10_lacksRow_52 : decode cX10_lacksRow 52 = .ok (.ireturn, 1) := by decide +kernel
theorem dX10_item_0 : decode cX10_item 0 = .ok (.iload_n 1, 1) := by decide +kernel
theorem dX10_item_1 : decode cX10_item 1 = .ok (.iload_n 2, 1) := by decide +kernel
theorem dX10_item_2 : decode cX10_item 2 = .ok (.invokestatic 268, 3) := by decide +kernel
theorem dX10_item_5 : decode cX10_item 5 = .ok (.ifCond .ne 5, 3) := by decide +kernel
theorem dX10_item_8 : decode cX10_item 8 = .ok (.iconst (-1), 1) := by decide +kernel
theorem dX10_item_9 : decode cX10_item 9 = .ok (.ireturn, 1) := by decide +kernel
theorem dX10_item_10 : decode cX10_item 10 = .ok (.aload_n 0, 1) := by decide +kernel
theorem dX10_item_11 : decode cX10_item 11 = .ok (.iload_n 1, 1) := by decide +kernel
theorem dX10_item_12 : decode cX10_item 12 = .ok (.iload_n 2, 1) := by decide +kernel
theorem dX10_item_13 : decode cX10_item 13 = .ok (.iload_n 3, 1) := by decide +kernel
theorem dX10_item_14 : decode cX10_item 14 = .ok (.iconst 1, 1) := by decide +kernel
theorem dX10_item_15 : decode cX10_item 15 = .ok (.invokevirtual 271, 3) := by decide +kernel
theorem dX10_item_18 : decode cX10_item 18 = .ok (.istore 5, 2) := by decide +kernel
theorem dX10_item_20 : decode cX10_item 20 = .ok (.iload 5, 2) := by decide +kernel
theorem dX10_item_22 : decode cX10_item 22 = .ok (.ifCond .ge 6, 3) := by decide +kernel
theorem dX10_item_25 : decode cX10_item 25 = .ok (.iload 5, 2) := by decide +kernel
theorem dX10_item_27 : decode cX10_item 27 = .ok (.ireturn, 1) := by decide +kernel
theorem dX10_item_28 : decode cX10_item 28 = .ok (.aload_n 0, 1) := by decide +kernel
theorem dX10_item_29 : decode cX10_item 29 = .ok (.getfield 61, 3) := by decide +kernel
theorem dX10_item_32 : decode cX10_item 32 = .ok (.bipush 16, 2) := by decide +kernel
theorem dX10_item_34 : decode cX10_item 34 = .ok (.iload_n 1, 1) := by decide +kernel
theorem dX10_item_35 : decode cX10_item 35 = .ok (.imul, 1) := by decide +kernel
theorem dX10_item_36 : decode cX10_item 36 = .ok (.iload_n 3, 1) := by decide +kernel
theorem dX10_item_37 : decode cX10_item 37 = .ok (.iadd, 1) := by decide +kernel
theorem dX10_item_38 : decode cX10_item 38 = .ok (.iload_n 2, 1) := by decide +kernel
theorem dX10_item_39 : decode cX10_item 39 = .ok (.ifCond .ne 14, 3) := by decide +kernel
theorem dX10_item_42 : decode cX10_item 42 = .ok (.iload 4, 2) := by decide +kernel
theorem dX10_item_44 : decode cX10_item 44 = .ok (.bipush 24, 2) := by decide +kernel
theorem dX10_item_46 : decode cX10_item 46 = .ok (.ishl, 1) := by decide +kernel
theorem dX10_item_47 : decode cX10_item 47 = .ok (.bipush 24, 2) := by decide +kernel
theorem dX10_item_49 : decode cX10_item 49 = .ok (.ishr, 1) := by decide +kernel
theorem dX10_item_50 : decode cX10_item 50 = .ok (.goto 21, 3) := by decide +kernel
theorem dX10_item_53 : decode cX10_item 53 = .ok (.iload_n 2, 1) := by decide +kernel
theorem dX10_item_54 : decode cX10_item 54 = .ok (.iconst 1, 1) := by decide +kernel
theorem dX10_item_55 : decode cX10_item 55 = .ok (.if_icmp .ne 14, 3) := by decide +kernel
theorem dX10_item_58 : decode cX10_item 58 = .ok (.iload 4, 2) := by decide +kernel
theorem dX10_item_60 : decode cX10_item 60 = .ok (.bipush 16, 2) := by decide +kernel
theorem dX10_item_62 : decode cX10_item 62 = .ok (.ishl, 1) := by decide +kernel
theorem dX10_item_63 : decode cX10_item 63 = .ok (.bipush 16, 2) := by decide +kernel
theorem dX10_item_65 : decode cX10_item 65 = .ok (.ishr, 1) := by decide +kernel
theorem dX10_item_66 : decode cX10_item 66 = .ok (.goto 5, 3) := by decide +kernel
theorem dX10_item_69 : decode cX10_item 69 = .ok (.iload 4, 2) := by decide +kernel
theorem dX10_item_71 : decode cX10_item 71 = .ok (.iastore, 1) := by decide +kernel
theorem dX10_item_72 : decode cX10_item 72 = .ok (.iconst 1, 1) := by decide +kernel
theorem dX10_item_73 : decode cX10_item 73 = .ok (.ireturn, 1) := by decide +kernel
theorem dX10_shows_0 : decode cX10_shows 0 = .ok (.aload_n 0, 1) := by decide +kernel
theorem dX10_shows_1 : decode cX10_shows 1 = .ok (.iload_n 1, 1) := by decide +kernel
theorem dX10_shows_2 : decode cX10_shows 2 = .ok (.invokevirtual 120, 3) := by decide +kernel
theorem dX10_shows_5 : decode cX10_shows 5 = .ok (.ifCond .eq 11, 3) := by decide +kernel
theorem dX10_shows_8 : decode cX10_shows 8 = .ok (.iload_n 2, 1) := by decide +kernel
theorem dX10_shows_9 : decode cX10_shows 9 = .ok (.iload_n 3, 1) := by decide +kernel
theorem dX10_shows_10 : decode cX10_shows 10 = .ok (.invokestatic 268, 3) := by decide +kernel
theorem dX10_shows_13 : decode cX10_shows 13 = .ok (.ifCond .ne 5, 3) := by decide +kernel
theorem dX10_shows_16 : decode cX10_shows 16 = .ok (.iconst (-1), 1) := by decide +kernel
theorem dX10_shows_17 : decode cX10_shows 17 = .ok (.ireturn, 1) := by decide +kernel
theorem dX10_shows_18 : decode cX10_shows 18 = .ok (.aload_n 0, 1) := by decide +kernel
theorem dX10_shows_19 : decode cX10_shows 19 = .ok (.iload_n 2, 1) := by decide +kernel
theorem dX10_shows_20 : decode cX10_shows 20 = .ok (.iload_n 3, 1) := by decide +kernel
theorem dX10_shows_21 : decode cX10_shows 21 = .ok (.iload 4, 2) := by decide +kernel
theorem dX10_shows_23 : decode cX10_shows 23 = .ok (.bipush 6, 2) := by decide +kernel
theorem dX10_shows_25 : decode cX10_shows 25 = .ok (.invokevirtual 271, 3) := by decide +kernel
theorem dX10_shows_28 : decode cX10_shows 28 = .ok (.istore 5, 2) := by decide +kernel
theorem dX10_shows_30 : decode cX10_shows 30 = .ok (.iload 5, 2) := by decide +kernel
theorem dX10_shows_32 : decode cX10_shows 32 = .ok (.ifCond .ge 6, 3) := by decide +kernel
theorem dX10_shows_35 : decode cX10_shows 35 = .ok (.iload 5, 2) := by decide +kernel
theorem dX10_shows_37 : decode cX10_shows 37 = .ok (.ireturn, 1) := by decide +kernel
theorem dX10_shows_38 : decode cX10_shows 38 = .ok (.aload_n 0, 1) := by decide +kernel
theorem dX10_shows_39 : decode cX10_shows 39 = .ok (.getfield 13, 3) := by decide +kernel
theorem dX10_shows_42 : decode cX10_shows 42 = .ok (.iconst 5, 1) := by decide +kernel
theorem dX10_shows_43 : decode cX10_shows 43 = .ok (.iload_n 1, 1) := by decide +kernel
theorem dX10_shows_44 : decode cX10_shows 44 = .ok (.imul, 1) := by decide +kernel
theorem dX10_shows_45 : decode cX10_shows 45 = .ok (.iconst 1, 1) := by decide +kernel
theorem dX10_shows_46 : decode cX10_shows 46 = .ok (.iadd, 1) := by decide +kernel
theorem dX10_shows_47 : decode cX10_shows 47 = .ok (.iaload, 1) := by decide +kernel
theorem dX10_shows_48 : decode cX10_shows 48 = .ok (.istore 6, 2) := by decide +kernel
theorem dX10_shows_50 : decode cX10_shows 50 = .ok (.iconst 0, 1) := by decide +kernel
theorem dX10_shows_51 : decode cX10_shows 51 = .ok (.istore 7, 2) := by decide +kernel
theorem dX10_shows_53 : decode cX10_shows 53 = .ok (.iconst 0, 1) := by decide +kernel
theorem dX10_shows_54 : decode cX10_shows 54 = .ok (.istore 8, 2) := by decide +kernel
theorem dX10_shows_56 : decode cX10_shows 56 = .ok (.iload 8, 2) := by decide +kernel
theorem dX10_shows_58 : decode cX10_shows 58 = .ok (.bipush 6, 2) := by decide +kernel
theorem dX10_shows_60 : decode cX10_shows 60 = .ok (.if_icmp .ge 40, 3) := by decide +kernel
theorem dX10_shows_63 : decode cX10_shows 63 = .ok (.iload 7, 2) := by decide +kernel
theorem dX10_shows_65 : decode cX10_shows 65 = .ok (.aload_n 0, 1) := by decide +kernel
theorem dX10_shows_66 : decode cX10_shows 66 = .ok (.getfield 61, 3) := by decide +kernel
theorem dX10_shows_69 : decode cX10_shows 69 = .ok (.bipush 16, 2) := by decide +kernel
theorem dX10_shows_71 : decode cX10_shows 71 = .ok (.iload_n 2, 1) := by decide +kernel
theorem dX10_shows_72 : decode cX10_shows 72 = .ok (.imul, 1) := by decide +kernel
theorem dX10_shows_73 : decode cX10_shows 73 = .ok (.iload 4, 2) := by decide +kernel
theorem dX10_shows_75 : decode cX10_shows 75 = .ok (.iadd, 1) := by decide +kernel
theorem dX10_shows_76 : decode cX10_shows 76 = .ok (.iload 8, 2) := by decide +kernel
theorem dX10_shows_78 : decode cX10_shows 78 = .ok (.iadd, 1) := by decide +kernel
theorem dX10_shows_79 : decode cX10_shows 79 = .ok (.iaload, 1) := by decide +kernel
theorem dX10_shows_80 : decode cX10_shows 80 = .ok (.ifCond .eq 10, 3) := by decide +kernel
theorem dX10_shows_83 : decode cX10_shows 83 = .ok (.iconst 1, 1) := by decide +kernel
theorem dX10_shows_84 : decode cX10_shows 84 = .ok (.iload 8, 2) := by decide +kernel
theorem dX10_shows_86 : decode cX10_shows 86 = .ok (.ishl, 1) := by decide +kernel
theorem dX10_shows_87 : decode cX10_shows 87 = .ok (.goto 4, 3) := by decide +kernel
theorem dX10_shows_90 : decode cX10_shows 90 = .ok (.iconst 0, 1) := by decide +kernel
theorem dX10_shows_91 : decode cX10_shows 91 = .ok (.ior, 1) := by decide +kernel
theorem dX10_shows_92 : decode cX10_shows 92 = .ok (.istore 7, 2) := by decide +kernel
theorem dX10_shows_94 : decode cX10_shows 94 = .ok (.iinc 8 1, 3) := by decide +kernel
theorem dX10_shows_97 : decode cX10_shows 97 = .ok (.goto (-41), 3) := by decide +kernel
theorem dX10_shows_100 : decode cX10_shows 100 = .ok (.aload_n 0, 1) := by decide +kernel
theorem dX10_shows_101 : decode cX10_shows 101 = .ok (.getfield 13, 3) := by decide +kernel
theorem dX10_shows_104 : decode cX10_shows 104 = .ok (.iconst 5, 1) := by decide +kernel
theorem dX10_shows_105 : decode cX10_shows 105 = .ok (.iload_n 1, 1) := by decide +kernel
theorem dX10_shows_106 : decode cX10_shows 106 = .ok (.imul, 1) := by decide +kernel
theorem dX10_shows_107 : decode cX10_shows 107 = .ok (.iconst 1, 1) := by decide +kernel
theorem dX10_shows_108 : decode cX10_shows 108 = .ok (.iadd, 1) := by decide +kernel
theorem dX10_shows_109 : decode cX10_shows 109 = .ok (.iload 7, 2) := by decide +kernel
theorem dX10_shows_111 : decode cX10_shows 111 = .ok (.iastore, 1) := by decide +kernel
theorem dX10_shows_112 : decode cX10_shows 112 = .ok (.iload 6, 2) := by decide +kernel
theorem dX10_shows_114 : decode cX10_shows 114 = .ok (.ireturn, 1) := by decide +kernel
