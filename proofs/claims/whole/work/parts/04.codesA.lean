theorem dX0_init_0 : decode cX0_init 0 = .ok (.aload_n 0, 1) := by decide +kernel
theorem dX0_init_1 : decode cX0_init 1 = .ok (.invokespecial 3, 3) := by decide +kernel
theorem dX0_init_4 : decode cX0_init 4 = .ok (.aload_n 0, 1) := by decide +kernel
theorem dX0_init_5 : decode cX0_init 5 = .ok (.new 9, 3) := by decide +kernel
theorem dX0_init_8 : decode cX0_init 8 = .ok (.dup, 1) := by decide +kernel
theorem dX0_init_9 : decode cX0_init 9 = .ok (.invokespecial 11, 3) := by decide +kernel
theorem dX0_init_12 : decode cX0_init 12 = .ok (.putfield 12, 3) := by decide +kernel
theorem dX0_init_15 : decode cX0_init 15 = .ok (.aload_n 0, 1) := by decide +kernel
theorem dX0_init_16 : decode cX0_init 16 = .ok (.bipush 8, 2) := by decide +kernel
theorem dX0_init_18 : decode cX0_init 18 = .ok (.newarray .int, 2) := by decide +kernel
theorem dX0_init_20 : decode cX0_init 20 = .ok (.putfield 18, 3) := by decide +kernel
theorem dX0_init_23 : decode cX0_init 23 = .ok (.aload_n 0, 1) := by decide +kernel
theorem dX0_init_24 : decode cX0_init 24 = .ok (.bipush 8, 2) := by decide +kernel
theorem dX0_init_26 : decode cX0_init 26 = .ok (.newarray .int, 2) := by decide +kernel
theorem dX0_init_28 : decode cX0_init 28 = .ok (.putfield 22, 3) := by decide +kernel
theorem dX0_init_31 : decode cX0_init 31 = .ok (.aload_n 0, 1) := by decide +kernel
theorem dX0_init_32 : decode cX0_init 32 = .ok (.bipush 8, 2) := by decide +kernel
theorem dX0_init_34 : decode cX0_init 34 = .ok (.newarray .int, 2) := by decide +kernel
theorem dX0_init_36 : decode cX0_init 36 = .ok (.putfield 25, 3) := by decide +kernel
theorem dX0_init_39 : decode cX0_init 39 = .ok (.aload_n 0, 1) := by decide +kernel
theorem dX0_init_40 : decode cX0_init 40 = .ok (.iconst 2, 1) := by decide +kernel
theorem dX0_init_41 : decode cX0_init 41 = .ok (.newarray .int, 2) := by decide +kernel
theorem dX0_init_43 : decode cX0_init 43 = .ok (.putfield 28, 3) := by decide +kernel
theorem dX0_init_46 : decode cX0_init 46 = .ok (.aload_n 0, 1) := by decide +kernel
theorem dX0_init_47 : decode cX0_init 47 = .ok (.bipush 8, 2) := by decide +kernel
theorem dX0_init_49 : decode cX0_init 49 = .ok (.newarray .int, 2) := by decide +kernel
theorem dX0_init_51 : decode cX0_init 51 = .ok (.putfield 31, 3) := by decide +kernel
theorem dX0_init_54 : decode cX0_init 54 = .ok (.aload_n 0, 1) := by decide +kernel
theorem dX0_init_55 : decode cX0_init 55 = .ok (.bipush 8, 2) := by decide +kernel
theorem dX0_init_57 : decode cX0_init 57 = .ok (.newarray .int, 2) := by decide +kernel
theorem dX0_init_59 : decode cX0_init 59 = .ok (.putfield 34, 3) := by decide +kernel
theorem dX0_init_62 : decode cX0_init 62 = .ok (.return_, 1) := by decide +kernel
theorem dX0_take_0 : decode cX0_take 0 = .ok (.aload_n 0, 1) := by decide +kernel
theorem dX0_take_1 : decode cX0_take 1 = .ok (.aload_n 1, 1) := by decide +kernel
theorem dX0_take_2 : decode cX0_take 2 = .ok (.putfield 12, 3) := by decide +kernel
theorem dX0_take_5 : decode cX0_take 5 = .ok (.aload_n 0, 1) := by decide +kernel
theorem dX0_take_6 : decode cX0_take 6 = .ok (.iload_n 2, 1) := by decide +kernel
theorem dX0_take_7 : decode cX0_take 7 = .ok (.putfield 37, 3) := by decide +kernel
theorem dX0_take_10 : decode cX0_take 10 = .ok (.aload_n 0, 1) := by decide +kernel
theorem dX0_take_11 : decode cX0_take 11 = .ok (.iload_n 3, 1) := by decide +kernel
theorem dX0_take_12 : decode cX0_take 12 = .ok (.putfield 41, 3) := by decide +kernel
theorem dX0_take_15 : decode cX0_take 15 = .ok (.aload_n 0, 1) := by decide +kernel
theorem dX0_take_16 : decode cX0_take 16 = .ok (.aload_n 1, 1) := by decide +kernel
theorem dX0_take_17 : decode cX0_take 17 = .ok (.iload_n 2, 1) := by decide +kernel
theorem dX0_take_18 : decode cX0_take 18 = .ok (.iconst 0, 1) := by decide +kernel
theorem dX0_take_19 : decode cX0_take 19 = .ok (.invokevirtual 44, 3) := by decide +kernel
theorem dX0_take_22 : decode cX0_take 22 = .ok (.putfield 48, 3) := by decide +kernel
theorem dX0_take_25 : decode cX0_take 25 = .ok (.aload_n 0, 1) := by decide +kernel
theorem dX0_take_26 : decode cX0_take 26 = .ok (.aload_n 1, 1) := by decide +kernel
theorem dX0_take_27 : decode cX0_take 27 = .ok (.iload_n 2, 1) := by decide +kernel
theorem dX0_take_28 : decode cX0_take 28 = .ok (.iconst 1, 1) := by decide +kernel
theorem dX0_take_29 : decode cX0_take 29 = .ok (.invokevirtual 44, 3) := by decide +kernel
theorem dX0_take_32 : decode cX0_take 32 = .ok (.putfield 51, 3) := by decide +kernel
theorem dX0_take_35 : decode cX0_take 35 = .ok (.aload_n 0, 1) := by decide +kernel
theorem dX0_take_36 : decode cX0_take 36 = .ok (.aload_n 1, 1) := by decide +kernel
theorem dX0_take_37 : decode cX0_take 37 = .ok (.iload_n 2, 1) := by decide +kernel
theorem dX0_take_38 : decode cX0_take 38 = .ok (.iconst 2, 1) := by decide +kernel
theorem dX0_take_39 : decode cX0_take 39 = .ok (.invokevirtual 44, 3) := by decide +kernel
theorem dX0_take_42 : decode cX0_take 42 = .ok (.putfield 54, 3) := by decide +kernel
theorem dX0_take_45 : decode cX0_take 45 = .ok (.aload_n 0, 1) := by decide +kernel
theorem dX0_take_46 : decode cX0_take 46 = .ok (.aload_n 1, 1) := by decide +kernel
theorem dX0_take_47 : decode cX0_take 47 = .ok (.iload_n 2, 1) := by decide +kernel
theorem dX0_take_48 : decode cX0_take 48 = .ok (.iconst 3, 1) := by decide +kernel
theorem dX0_take_49 : decode cX0_take 49 = .ok (.invokevirtual 44, 3) := by decide +kernel
theorem dX0_take_52 : decode cX0_take 52 = .ok (.putfield 57, 3) := by decide +kernel
theorem dX0_take_55 : decode cX0_take 55 = .ok (.aload_n 0, 1) := by decide +kernel
theorem dX0_take_56 : decode cX0_take 56 = .ok (.getfield 18, 3) := by decide +kernel
theorem dX0_take_59 : decode cX0_take 59 = .ok (.iconst 0, 1) := by decide +kernel
theorem dX0_take_60 : decode cX0_take 60 = .ok (.aload_n 0, 1) := by decide +kernel
theorem dX0_take_61 : decode cX0_take 61 = .ok (.getfield 12, 3) := by decide +kernel
theorem dX0_take_64 : decode cX0_take 64 = .ok (.getfield 60, 3) := by decide +kernel
theorem dX0_take_67 : decode cX0_take 67 = .ok (.aload_n 0, 1) := by decide +kernel
theorem dX0_take_68 : decode cX0_take 68 = .ok (.getfield 12, 3) := by decide +kernel
theorem dX0_take_71 : decode cX0_take 71 = .ok (.aload_n 0, 1) := by decide +kernel
theorem dX0_take_72 : decode cX0_take 72 = .ok (.getfield 41, 3) := by decide +kernel
theorem dX0_take_75 : decode cX0_take 75 = .ok (.iconst 0, 1) := by decide +kernel
theorem dX0_take_76 : decode cX0_take 76 = .ok (.invokevirtual 63, 3) := by decide +kernel
theorem dX0_take_79 : decode cX0_take 79 = .ok (.iconst 0, 1) := by decide +kernel
theorem dX0_take_80 : decode cX0_take 80 = .ok (.iadd, 1) := by decide +kernel
theorem dX0_take_81 : decode cX0_take 81 = .ok (.iaload, 1) := by decide +kernel
theorem dX0_take_82 : decode cX0_take 82 = .ok (.iastore, 1) := by decide +kernel
theorem dX0_take_83 : decode cX0_take 83 = .ok (.aload_n 0, 1) := by decide +kernel
theorem dX0_take_84 : decode cX0_take 84 = .ok (.iconst 1, 1) := by decide +kernel
theorem dX0_take_85 : decode cX0_take 85 = .ok (.putfield 66, 3) := by decide +kernel
theorem dX0_take_88 : decode cX0_take 88 = .ok (.aload_n 0, 1) := by decide +kernel
theorem dX0_take_89 : decode cX0_take 89 = .ok (.aload_n 0, 1) := by decide +kernel
theorem dX0_take_90 : decode cX0_take 90 = .ok (.getfield 41, 3) := by decide +kernel
theorem dX0_take_93 : decode cX0_take 93 = .ok (.invokevirtual 69, 3) := by decide +kernel
theorem dX0_take_96 : decode cX0_take 96 = .ok (.aload_n 0, 1) := by decide +kernel
theorem dX0_take_97 : decode cX0_take 97 = .ok (.getfield 12, 3) := by decide +kernel
theorem dX0_take_100 : decode cX0_take 100 = .ok (.aload_n 0, 1) := by decide +kernel
theorem dX0_take_101 : decode cX0_take 101 = .ok (.getfield 41, 3) := by decide +kernel
theorem dX0_take_104 : decode cX0_take 104 = .ok (.invokevirtual 73, 3) := by decide +kernel
theorem dX0_take_107 : decode cX0_take 107 = .ok (.ifCond .eq 11, 3) := by decide +kernel
theorem dX0_take_110 : decode cX0_take 110 = .ok (.aload_n 0, 1) := by decide +kernel
theorem dX0_take_111 : decode cX0_take 111 = .ok (.aload_n 0, 1) := by decide +kernel
theorem dX0_take_112 : decode cX0_take 112 = .ok (.getfield 51, 3) := by decide +kernel
theorem dX0_take_115 : decode cX0_take 115 = .ok (.invokevirtual 69, 3) := by decide +kernel
theorem dX0_take_118 : decode cX0_take 118 = .ok (.iconst 0, 1) := by decide +kernel
theorem dX0_take_119 : decode cX0_take 119 = .ok (.istore 4, 2) := by decide +kernel
theorem dX0_take_121 : decode cX0_take 121 = .ok (.iload 4, 2) := by decide +kernel
theorem dX0_take_123 : decode cX0_take 123 = .ok (.aload_n 0, 1) := by decide +kernel
theorem dX0_take_124 : decode cX0_take 124 = .ok (.getfield 66, 3) := by decide +kernel
theorem dX0_take_127 : decode cX0_take 127 = .ok (.if_icmp .ge 81, 3) := by decide +kernel
theorem dX0_take_130 : decode cX0_take 130 = .ok (.aload_n 0, 1) := by decide +kernel
theorem dX0_take_131 : decode cX0_take 131 = .ok (.getfield 22, 3) := by decide +kernel
theorem dX0_take_134 : decode cX0_take 134 = .ok (.iload 4, 2) := by decide +kernel
theorem dX0_take_136 : decode cX0_take 136 = .ok (.aload_n 0, 1) := by decide +kernel
theorem dX0_take_137 : decode cX0_take 137 = .ok (.getfield 12, 3) := by decide +kernel
theorem dX0_take_140 : decode cX0_take 140 = .ok (.aload_n 0, 1) := by decide +kernel
theorem dX0_take_141 : decode cX0_take 141 = .ok (.getfield 41, 3) := by decide +kernel
theorem dX0_take_144 : decode cX0_take 144 = .ok (.aload_n 0, 1) := by decide +kernel
theorem dX0_take_145 : decode cX0_take 145 = .ok (.getfield 12, 3) := by decide +kernel
theorem dX0_take_148 : decode cX0_take 148 = .ok (.aload_n 0, 1) := by decide +kernel
theorem dX0_take_149 : decode cX0_take 149 = .ok (.getfield 41, 3) := by decide +kernel
theorem dX0_take_152 : decode cX0_take 152 = .ok (.aload_n 0, 1) := by decide +kernel
theorem dX0_take_153 : decode cX0_take 153 = .ok (.getfield 18, 3) := by decide +kernel
theorem dX0_take_156 : decode cX0_take 156 = .ok (.iload 4, 2) := by decide +kernel
theorem dX0_take_158 : decode cX0_take 158 = .ok (.iaload, 1) := by decide +kernel
theorem dX0_take_159 : decode cX0_take 159 = .ok (.invokevirtual 77, 3) := by decide +kernel
theorem dX0_take_162 : decode cX0_take 162 = .ok (.invokevirtual 63, 3) := by decide +kernel
theorem dX0_take_165 : decode cX0_take 165 = .ok (.iastore, 1) := by decide +kernel
theorem dX0_take_166 : decode cX0_take 166 = .ok (.aload_n 0, 1) := by decide +kernel
theorem dX0_take_167 : decode cX0_take 167 = .ok (.getfield 25, 3) := by decide +kernel
theorem dX0_take_170 : decode cX0_take 170 = .ok (.iload 4, 2) := by decide +kernel
theorem dX0_take_172 : decode cX0_take 172 = .ok (.aload_n 0, 1) := by decide +kernel
theorem dX0_take_173 : decode cX0_take 173 = .ok (.getfield 12, 3) := by decide +kernel
theorem dX0_take_176 : decode cX0_take 176 = .ok (.aload_n 0, 1) := by decide +kernel
theorem dX0_take_177 : decode cX0_take 177 = .ok (.getfield 51, 3) := by decide +kernel
theorem dX0_take_180 : decode cX0_take 180 = .ok (.aload_n 0, 1) := by decide +kernel
theorem dX0_take_181 : decode cX0_take 181 = .ok (.getfield 12, 3) := by decide +kernel
theorem dX0_take_184 : decode cX0_take 184 = .ok (.aload_n 0, 1) := by decide +kernel
theorem dX0_take_185 : decode cX0_take 185 = .ok (.getfield 51, 3) := by decide +kernel
theorem dX0_take_188 : decode cX0_take 188 = .ok (.aload_n 0, 1) := by decide +kernel
theorem dX0_take_189 : decode cX0_take 189 = .ok (.getfield 18, 3) := by decide +kernel
theorem dX0_take_192 : decode cX0_take 192 = .ok (.iload 4, 2) := by decide +kernel
theorem dX0_take_194 : decode cX0_take 194 = .ok (.iaload, 1) := by decide +kernel
theorem dX0_take_195 : decode cX0_take 195 = .ok (.invokevirtual 77, 3) := by decide +kernel
theorem dX0_take_198 : decode cX0_take 198 = .ok (.invokevirtual 63, 3) := by decide +kernel
theorem dX0_take_201 : decode cX0_take 201 = .ok (.iastore, 1) := by decide +kernel
theorem dX0_take_202 : decode cX0_take 202 = .ok (.iinc 4 1, 3) := by decide +kernel
theorem dX0_take_205 : decode cX0_take 205 = .ok (.goto (-84), 3) := by decide +kernel
theorem dX0_take_208 : decode cX0_take 208 = .ok (.return_, 1) := by decide +kernel
theorem dX0_addYearsOf_0 : decode cX0_addYearsOf 0 = .ok (.iconst 0, 1) := by decide +kernel
theorem dX0_addYearsOf_1 : decode cX0_addYearsOf 1 = .ok (.istore_n 2, 1) := by decide +kernel
theorem dX0_addYearsOf_2 : decode cX0_addYearsOf 2 = .ok (.iload_n 2, 1) := by decide +kernel
theorem dX0_addYearsOf_3 : decode cX0_addYearsOf 3 = .ok (.aload_n 0, 1) := by decide +kernel
theorem dX0_addYearsOf_4 : decode cX0_addYearsOf 4 = .ok (.getfield 12, 3) := by decide +kernel
theorem dX0_addYearsOf_7 : decode cX0_addYearsOf 7 = .ok (.getfield 80, 3) := by decide +kernel
theorem dX0_addYearsOf_10 : decode cX0_addYearsOf 10 = .ok (.iload_n 1, 1) := by decide +kernel
theorem dX0_addYearsOf_11 : decode cX0_addYearsOf 11 = .ok (.iaload, 1) := by decide +kernel
theorem dX0_addYearsOf_12 : decode cX0_addYearsOf 12 = .ok (.if_icmp .ge 32, 3) := by decide +kernel
theorem dX0_addYearsOf_15 : decode cX0_addYearsOf 15 = .ok (.aload_n 0, 1) := by decide +kernel
theorem dX0_addYearsOf_16 : decode cX0_addYearsOf 16 = .ok (.aload_n 0, 1) := by decide +kernel
theorem dX0_addYearsOf_17 : decode cX0_addYearsOf 17 = .ok (.getfield 12, 3) := by decide +kernel
theorem dX0_addYearsOf_20 : decode cX0_addYearsOf 20 = .ok (.getfield 60, 3) := by decide +kernel
theorem dX0_addYearsOf_23 : decode cX0_addYearsOf 23 = .ok (.aload_n 0, 1) := by decide +kernel
theorem dX0_addYearsOf_24 : decode cX0_addYearsOf 24 = .ok (.getfield 12, 3) := by decide +kernel
theorem dX0_addYearsOf_27 : decode cX0_addYearsOf 27 = .ok (.iload_n 1, 1) := by decide +kernel
theorem dX0_addYearsOf_28 : decode cX0_addYearsOf 28 = .ok (.iload_n 2, 1) := by decide +kernel
theorem dX0_addYearsOf_29 : decode cX0_addYearsOf 29 = .ok (.invokevirtual 63, 3) := by decide +kernel
theorem dX0_addYearsOf_32 : decode cX0_addYearsOf 32 = .ok (.iconst 0, 1) := by decide +kernel
theorem dX0_addYearsOf_33 : decode cX0_addYearsOf 33 = .ok (.iadd, 1) := by decide +kernel
theorem dX0_addYearsOf_34 : decode cX0_addYearsOf 34 = .ok (.iaload, 1) := by decide +kernel
theorem dX0_addYearsOf_35 : decode cX0_addYearsOf 35 = .ok (.invokevirtual 83, 3) := by decide +kernel
theorem dX0_addYearsOf_38 : decode cX0_addYearsOf 38 = .ok (.iinc 2 1, 3) := by decide +kernel
theorem dX0_addYearsOf_41 : decode cX0_addYearsOf 41 = .ok (.goto (-39), 3) := by decide +kernel
theorem dX0_addYearsOf_44 : decode cX0_addYearsOf 44 = .ok (.return_, 1) := by decide +kernel
theorem dX0_addYear_0 : decode cX0_addYear 0 = .ok (.aload_n 0, 1) := by decide +kernel
theorem dX0_addYear_1 : decode cX0_addYear 1 = .ok (.getfield 66, 3) := by decide +kernel
theorem dX0_addYear_4 : decode cX0_addYear 4 = .ok (.istore_n 2, 1) := by decide +kernel
theorem dX0_addYear_5 : decode cX0_addYear 5 = .ok (.iload_n 2, 1) := by decide +kernel
theorem dX0_addYear_6 : decode cX0_addYear 6 = .ok (.ifCond .le 21, 3) := by decide +kernel
theorem dX0_addYear_9 : decode cX0_addYear 9 = .ok (.aload_n 0, 1) := by decide +kernel
theorem dX0_addYear_10 : decode cX0_addYear 10 = .ok (.getfield 18, 3) := by decide +kernel
theorem dX0_addYear_13 : decode cX0_addYear 13 = .ok (.iload_n 2, 1) := by decide +kernel
theorem dX0_addYear_14 : decode cX0_addYear 14 = .ok (.iconst 1, 1) := by decide +kernel
theorem dX0_addYear_15 : decode cX0_addYear 15 = .ok (.isub, 1) := by decide +kernel
theorem dX0_addYear_16 : decode cX0_addYear 16 = .ok (.iaload, 1) := by decide +kernel
theorem dX0_addYear_17 : decode cX0_addYear 17 = .ok (.iload_n 1, 1) := by decide +kernel
theorem dX0_addYear_18 : decode cX0_addYear 18 = .ok (.if_icmp .le 9, 3) := by decide +kernel
theorem dX0_addYear_21 : decode cX0_addYear 21 = .ok (.iinc 2 (-1), 3) := by decide +kernel
theorem dX0_addYear_24 : decode cX0_addYear 24 = .ok (.goto (-19), 3) := by decide +kernel
theorem dX0_addYear_27 : decode cX0_addYear 27 = .ok (.iload_n 2, 1) := by decide +kernel
theorem dX0_addYear_28 : decode cX0_addYear 28 = .ok (.ifCond .eq 27, 3) := by decide +kernel
theorem dX0_addYear_31 : decode cX0_addYear 31 = .ok (.aload_n 0, 1) := by decide +kernel
theorem dX0_addYear_32 : decode cX0_addYear 32 = .ok (.getfield 18, 3) := by decide +kernel
theorem dX0_addYear_35 : decode cX0_addYear 35 = .ok (.iload_n 2, 1) := by decide +kernel
theorem dX0_addYear_36 : decode cX0_addYear 36 = .ok (.iconst 1, 1) := by decide +kernel
theorem dX0_addYear_37 : decode cX0_addYear 37 = .ok (.isub, 1) := by decide +kernel
theorem dX0_addYear_38 : decode cX0_addYear 38 = .ok (.iaload, 1) := by decide +kernel
theorem dX0_addYear_39 : decode cX0_addYear 39 = .ok (.iload_n 1, 1) := by decide +kernel
theorem dX0_addYear_40 : decode cX0_addYear 40 = .ok (.if_icmp .eq 15, 3) := by decide +kernel
theorem dX0_addYear_43 : decode cX0_addYear 43 = .ok (.aload_n 0, 1) := by decide +kernel
theorem dX0_addYear_44 : decode cX0_addYear 44 = .ok (.getfield 66, 3) := by decide +kernel
theorem dX0_addYear_47 : decode cX0_addYear 47 = .ok (.aload_n 0, 1) := by decide +kernel
theorem dX0_addYear_48 : decode cX0_addYear 48 = .ok (.getfield 18, 3) := by decide +kernel
theorem dX0_addYear_51 : decode cX0_addYear 51 = .ok (.arraylength, 1) := by decide +kernel
theorem dX0_addYear_52 : decode cX0_addYear 52 = .ok (.if_icmp .lt 4, 3) := by decide +kernel
theorem dX0_addYear_55 : decode cX0_addYear 55 = .ok (.return_, 1) := by decide +kernel
theorem dX0_addYear_56 : decode cX0_addYear 56 = .ok (.aload_n 0, 1) := by decide +kernel
theorem dX0_addYear_57 : decode cX0_addYear 57 = .ok (.getfield 18, 3) := by decide +kernel
theorem dX0_addYear_60 : decode cX0_addYear 60 = .ok (.iload_n 2, 1) := by decide +kernel
theorem dX0_addYear_61 : decode cX0_addYear 61 = .ok (.aload_n 0, 1) := by decide +kernel
theorem dX0_addYear_62 : decode cX0_addYear 62 = .ok (.getfield 18, 3) := by decide +kernel
theorem dX0_addYear_65 : decode cX0_addYear 65 = .ok (.iload_n 2, 1) := by decide +kernel
theorem dX0_addYear_66 : decode cX0_addYear 66 = .ok (.iconst 1, 1) := by decide +kernel
theorem dX0_addYear_67 : decode cX0_addYear 67 = .ok (.iadd, 1) := by decide +kernel
theorem dX0_addYear_68 : decode cX0_addYear 68 = .ok (.aload_n 0, 1) := by decide +kernel
theorem dX0_addYear_69 : decode cX0_addYear 69 = .ok (.getfield 66, 3) := by decide +kernel
theorem dX0_addYear_72 : decode cX0_addYear 72 = .ok (.iload_n 2, 1) := by decide +kernel
theorem dX0_addYear_73 : decode cX0_addYear 73 = .ok (.isub, 1) := by decide +kernel
theorem dX0_addYear_74 : decode cX0_addYear 74 = .ok (.invokestatic 86, 3) := by decide +kernel
theorem dX0_addYear_77 : decode cX0_addYear 77 = .ok (.aload_n 0, 1) := by decide +kernel
theorem dX0_addYear_78 : decode cX0_addYear 78 = .ok (.getfield 18, 3) := by decide +kernel
theorem dX0_addYear_81 : decode cX0_addYear 81 = .ok (.iload_n 2, 1) := by decide +kernel
theorem dX0_addYear_82 : decode cX0_addYear 82 = .ok (.iload_n 1, 1) := by decide +kernel
theorem dX0_addYear_83 : decode cX0_addYear 83 = .ok (.iastore, 1) := by decide +kernel
theorem dX0_addYear_84 : decode cX0_addYear 84 = .ok (.aload_n 0, 1) := by decide +kernel
theorem dX0_addYear_85 : decode cX0_addYear 85 = .ok (.dup, 1) := by decide +kernel
theorem dX0_addYear_86 : decode cX0_addYear 86 = .ok (.getfield 66, 3) := by decide +kernel
theorem dX0_addYear_89 : decode cX0_addYear 89 = .ok (.iconst 1, 1) := by decide +kernel
theorem dX0_addYear_90 : decode cX0_addYear 90 = .ok (.iadd, 1) := by decide +kernel
theorem dX0_addYear_91 : decode cX0_addYear 91 = .ok (.putfield 66, 3) := by decide +kernel
theorem dX0_addYear_94 : decode cX0_addYear 94 = .ok (.return_, 1) := by decide +kernel
theorem dX0_setDeaths_0 : decode cX0_setDeaths 0 = .ok (.aload_n 0, 1) := by decide +kernel
theorem dX0_setDeaths_1 : decode cX0_setDeaths 1 = .ok (.getfield 12, 3) := by decide +kernel
theorem dX0_setDeaths_4 : decode cX0_setDeaths 4 = .ok (.aload_n 0, 1) := by decide +kernel
theorem dX0_setDeaths_5 : decode cX0_setDeaths 5 = .ok (.iconst 0, 1) := by decide +kernel
theorem dX0_setDeaths_6 : decode cX0_setDeaths 6 = .ok (.invokevirtual 92, 3) := by decide +kernel
theorem dX0_setDeaths_9 : decode cX0_setDeaths 9 = .ok (.iload_n 1, 1) := by decide +kernel
theorem dX0_setDeaths_10 : decode cX0_setDeaths 10 = .ok (.invokevirtual 96, 3) := by decide +kernel
theorem dX0_setDeaths_13 : decode cX0_setDeaths 13 = .ok (.istore_n 2, 1) := by decide +kernel
theorem dX0_setDeaths_14 : decode cX0_setDeaths 14 = .ok (.aload_n 0, 1) := by decide +kernel
theorem dX0_setDeaths_15 : decode cX0_setDeaths 15 = .ok (.getfield 12, 3) := by decide +kernel
theorem dX0_setDeaths_18 : decode cX0_setDeaths 18 = .ok (.aload_n 0, 1) := by decide +kernel
theorem dX0_setDeaths_19 : decode cX0_setDeaths 19 = .ok (.iconst 1, 1) := by decide +kernel
theorem dX0_setDeaths_20 : decode cX0_setDeaths 20 = .ok (.invokevirtual 92, 3) := by decide +kernel
theorem dX0_setDeaths_23 : decode cX0_setDeaths 23 = .ok (.iload_n 1, 1) := by decide +kernel
theorem dX0_setDeaths_24 : decode cX0_setDeaths 24 = .ok (.invokevirtual 96, 3) := by decide +kernel
theorem dX0_setDeaths_27 : decode cX0_setDeaths 27 = .ok (.istore_n 3, 1) := by decide +kernel
theorem dX0_setDeaths_28 : decode cX0_setDeaths 28 = .ok (.aload_n 0, 1) := by decide +kernel
theorem dX0_setDeaths_29 : decode cX0_setDeaths 29 = .ok (.getfield 28, 3) := by decide +kernel
theorem dX0_setDeaths_32 : decode cX0_setDeaths 32 = .ok (.iconst 0, 1) := by decide +kernel
theorem dX0_setDeaths_33 : decode cX0_setDeaths 33 = .ok (.iaload, 1) := by decide +kernel
theorem dX0_setDeaths_34 : decode cX0_setDeaths 34 = .ok (.iload_n 2, 1) := by decide +kernel
theorem dX0_setDeaths_35 : decode cX0_setDeaths 35 = .ok (.if_icmp .ne 13, 3) := by decide +kernel
theorem dX0_setDeaths_38 : decode cX0_setDeaths 38 = .ok (.aload_n 0, 1) := by decide +kernel
theorem dX0_setDeaths_39 : decode cX0_setDeaths 39 = .ok (.getfield 28, 3) := by decide +kernel
theorem dX0_setDeaths_42 : decode cX0_setDeaths 42 = .ok (.iconst 1, 1) := by decide +kernel
theorem dX0_setDeaths_43 : decode cX0_setDeaths 43 = .ok (.iaload, 1) := by decide +kernel
theorem dX0_setDeaths_44 : decode cX0_setDeaths 44 = .ok (.iload_n 3, 1) := by decide +kernel
theorem dX0_setDeaths_45 : decode cX0_setDeaths 45 = .ok (.if_icmp .eq 7, 3) := by decide +kernel
theorem dX0_setDeaths_48 : decode cX0_setDeaths 48 = .ok (.iconst 1, 1) := by decide +kernel
theorem dX0_setDeaths_49 : decode cX0_setDeaths 49 = .ok (.goto 4, 3) := by decide +kernel
theorem dX0_setDeaths_52 : decode cX0_setDeaths 52 = .ok (.iconst 0, 1) := by decide +kernel
theorem dX0_setDeaths_53 : decode cX0_setDeaths 53 = .ok (.istore 4, 2) := by decide +kernel
theorem dX0_setDeaths_55 : decode cX0_setDeaths 55 = .ok (.aload_n 0, 1) := by decide +kernel
theorem dX0_setDeaths_56 : decode cX0_setDeaths 56 = .ok (.getfield 28, 3) := by decide +kernel
theorem dX0_setDeaths_59 : decode cX0_setDeaths 59 = .ok (.iconst 0, 1) := by decide +kernel
theorem dX0_setDeaths_60 : decode cX0_setDeaths 60 = .ok (.iload_n 2, 1) := by decide +kernel
theorem dX0_setDeaths_61 : decode cX0_setDeaths 61 = .ok (.iastore, 1) := by decide +kernel
theorem dX0_setDeaths_62 : decode cX0_setDeaths 62 = .ok (.aload_n 0, 1) := by decide +kernel
theorem dX0_setDeaths_63 : decode cX0_setDeaths 63 = .ok (.getfield 28, 3) := by decide +kernel
theorem dX0_setDeaths_66 : decode cX0_setDeaths 66 = .ok (.iconst 1, 1) := by decide +kernel
theorem dX0_setDeaths_67 : decode cX0_setDeaths 67 = .ok (.iload_n 3, 1) := by decide +kernel
theorem dX0_setDeaths_68 : decode cX0_setDeaths 68 = .ok (.iastore, 1) := by decide +kernel
theorem dX0_setDeaths_69 : decode cX0_setDeaths 69 = .ok (.iload 4, 2) := by decide +kernel
theorem dX0_setDeaths_71 : decode cX0_setDeaths 71 = .ok (.ireturn, 1) := by decide +kernel
theorem dX0_countingAuthors_0 : decode cX0_countingAuthors 0 = .ok (.aload_n 0, 1) := by decide +kernel
theorem dX0_countingAuthors_1 : decode cX0_countingAuthors 1 = .ok (.getfield 12, 3) := by decide +kernel
theorem dX0_countingAuthors_4 : decode cX0_countingAuthors 4 = .ok (.aload_n 0, 1) := by decide +kernel
theorem dX0_countingAuthors_5 : decode cX0_countingAuthors 5 = .ok (.getfield 37, 3) := by decide +kernel
theorem dX0_countingAuthors_8 : decode cX0_countingAuthors 8 = .ok (.iconst 4, 1) := by decide +kernel
theorem dX0_countingAuthors_9 : decode cX0_countingAuthors 9 = .ok (.invokevirtual 44, 3) := by decide +kernel
theorem dX0_countingAuthors_12 : decode cX0_countingAuthors 12 = .ok (.istore_n 2, 1) := by decide +kernel
theorem dX0_countingAuthors_13 : decode cX0_countingAuthors 13 = .ok (.iload_n 2, 1) := by decide +kernel
theorem dX0_countingAuthors_14 : decode cX0_countingAuthors 14 = .ok (.iload_n 2, 1) := by decide +kernel
theorem dX0_countingAuthors_15 : decode cX0_countingAuthors 15 = .ok (.ineg, 1) := by decide +kernel
theorem dX0_countingAuthors_16 : decode cX0_countingAuthors 16 = .ok (.iand, 1) := by decide +kernel
theorem dX0_countingAuthors_17 : decode cX0_countingAuthors 17 = .ok (.istore_n 3, 1) := by decide +kernel
theorem dX0_countingAuthors_18 : decode cX0_countingAuthors 18 = .ok (.aload_n 0, 1) := by decide +kernel
theorem dX0_countingAuthors_19 : decode cX0_countingAuthors 19 = .ok (.getfield 48, 3) := by decide +kernel
theorem dX0_countingAuthors_22 : decode cX0_countingAuthors 22 = .ok (.tableswitch 56 1 4 #[30, 40, 56, 42], 30) := by decide +kernel
theorem dX0_countingAuthors_52 : decode cX0_countingAuthors 52 = .ok (.iload_n 1, 1) := by decide +kernel
theorem dX0_countingAuthors_53 : decode cX0_countingAuthors 53 = .ok (.ifCond .eq 7, 3) := by decide +kernel
theorem dX0_countingAuthors_56 : decode cX0_countingAuthors 56 = .ok (.iload_n 2, 1) := by decide +kernel
theorem dX0_countingAuthors_57 : decode cX0_countingAuthors 57 = .ok (.goto 4, 3) := by decide +kernel
theorem dX0_countingAuthors_60 : decode cX0_countingAuthors 60 = .ok (.iload_n 3, 1) := by decide +kernel
theorem dX0_countingAuthors_61 : decode cX0_countingAuthors 61 = .ok (.ireturn, 1) := by decide +kernel
theorem dX0_countingAuthors_62 : decode cX0_countingAuthors 62 = .ok (.iload_n 2, 1) := by decide +kernel
theorem dX0_countingAuthors_63 : decode cX0_countingAuthors 63 = .ok (.ireturn, 1) := by decide +kernel
theorem dX0_countingAuthors_64 : decode cX0_countingAuthors 64 = .ok (.iload_n 2, 1) := by decide +kernel
theorem dX0_countingAuthors_65 : decode cX0_countingAuthors 65 = .ok (.iload_n 3, 1) := by decide +kernel
theorem dX0_countingAuthors_66 : decode cX0_countingAuthors 66 = .ok (.ixor, 1) := by decide +kernel
theorem dX0_countingAuthors_67 : decode cX0_countingAuthors 67 = .ok (.istore 4, 2) := by decide +kernel
theorem dX0_countingAuthors_69 : decode cX0_countingAuthors 69 = .ok (.iload_n 3, 1) := by decide +kernel
theorem dX0_countingAuthors_70 : decode cX0_countingAuthors 70 = .ok (.iload 4, 2) := by decide +kernel
theorem dX0_countingAuthors_72 : decode cX0_countingAuthors 72 = .ok (.iload 4, 2) := by decide +kernel
theorem dX0_countingAuthors_74 : decode cX0_countingAuthors 74 = .ok (.ineg, 1) := by decide +kernel
theorem dX0_countingAuthors_75 : decode cX0_countingAuthors 75 = .ok (.iand, 1) := by decide +kernel
theorem dX0_countingAuthors_76 : decode cX0_countingAuthors 76 = .ok (.ior, 1) := by decide +kernel
theorem dX0_countingAuthors_77 : decode cX0_countingAuthors 77 = .ok (.ireturn, 1) := by decide +kernel
theorem dX0_countingAuthors_78 : decode cX0_countingAuthors 78 = .ok (.iconst 0, 1) := by decide +kernel
theorem dX0_countingAuthors_79 : decode cX0_countingAuthors 79 = .ok (.ireturn, 1) := by decide +kernel
theorem dX0_termBy_0 : decode cX0_termBy 0 = .ok (.aload_n 0, 1) := by decide +kernel
theorem dX0_termBy_1 : decode cX0_termBy 1 = .ok (.getfield 48, 3) := by decide +kernel
theorem dX0_termBy_4 : decode cX0_termBy 4 = .ok (.lookupswitch 91 #[(3, 28), (5, 45)], 28) := by decide +kernel
theorem dX0_termBy_32 : decode cX0_termBy 32 = .ok (.aload_n 0, 1) := by decide +kernel
theorem dX0_termBy_33 : decode cX0_termBy 33 = .ok (.getfield 54, 3) := by decide +kernel
theorem dX0_termBy_36 : decode cX0_termBy 36 = .ok (.aload_n 0, 1) := by decide +kernel
theorem dX0_termBy_37 : decode cX0_termBy 37 = .ok (.getfield 12, 3) := by decide +kernel
theorem dX0_termBy_40 : decode cX0_termBy 40 = .ok (.getfield 60, 3) := by decide +kernel
theorem dX0_termBy_43 : decode cX0_termBy 43 = .ok (.iload_n 1, 1) := by decide +kernel
theorem dX0_termBy_44 : decode cX0_termBy 44 = .ok (.iconst 3, 1) := by decide +kernel
theorem dX0_termBy_45 : decode cX0_termBy 45 = .ok (.iadd, 1) := by decide +kernel
theorem dX0_termBy_46 : decode cX0_termBy 46 = .ok (.iaload, 1) := by decide +kernel
theorem dX0_termBy_47 : decode cX0_termBy 47 = .ok (.iadd, 1) := by decide +kernel
theorem dX0_termBy_48 : decode cX0_termBy 48 = .ok (.ireturn, 1) := by decide +kernel
theorem dX0_termBy_49 : decode cX0_termBy 49 = .ok (.aload_n 0, 1) := by decide +kernel
theorem dX0_termBy_50 : decode cX0_termBy 50 = .ok (.getfield 12, 3) := by decide +kernel
theorem dX0_termBy_53 : decode cX0_termBy 53 = .ok (.getfield 60, 3) := by decide +kernel
theorem dX0_termBy_56 : decode cX0_termBy 56 = .ok (.iload_n 1, 1) := by decide +kernel
theorem dX0_termBy_57 : decode cX0_termBy 57 = .ok (.iconst 2, 1) := by decide +kernel
theorem dX0_termBy_58 : decode cX0_termBy 58 = .ok (.iadd, 1) := by decide +kernel
theorem dX0_termBy_59 : decode cX0_termBy 59 = .ok (.iaload, 1) := by decide +kernel
theorem dX0_termBy_60 : decode cX0_termBy 60 = .ok (.istore_n 2, 1) := by decide +kernel
theorem dX0_termBy_61 : decode cX0_termBy 61 = .ok (.iload_n 2, 1) := by decide +kernel
theorem dX0_termBy_62 : decode cX0_termBy 62 = .ok (.aload_n 0, 1) := by decide +kernel
theorem dX0_termBy_63 : decode cX0_termBy 63 = .ok (.getfield 57, 3) := by decide +kernel
theorem dX0_termBy_66 : decode cX0_termBy 66 = .ok (.ifCond .eq 23, 3) := by decide +kernel
theorem dX0_termBy_69 : decode cX0_termBy 69 = .ok (.aload_n 0, 1) := by decide +kernel
theorem dX0_termBy_70 : decode cX0_termBy 70 = .ok (.getfield 57, 3) := by decide +kernel
theorem dX0_termBy_73 : decode cX0_termBy 73 = .ok (.aload_n 0, 1) := by decide +kernel
theorem dX0_termBy_74 : decode cX0_termBy 74 = .ok (.getfield 54, 3) := by decide +kernel
theorem dX0_termBy_77 : decode cX0_termBy 77 = .ok (.iload_n 2, 1) := by decide +kernel
theorem dX0_termBy_78 : decode cX0_termBy 78 = .ok (.iadd, 1) := by decide +kernel
theorem dX0_termBy_79 : decode cX0_termBy 79 = .ok (.if_icmp .gt 10, 3) := by decide +kernel
theorem dX0_termBy_82 : decode cX0_termBy 82 = .ok (.aload_n 0, 1) := by decide +kernel
theorem dX0_termBy_83 : decode cX0_termBy 83 = .ok (.getfield 57, 3) := by decide +kernel
theorem dX0_termBy_86 : decode cX0_termBy 86 = .ok (.goto 7, 3) := by decide +kernel
theorem dX0_termBy_89 : decode cX0_termBy 89 = .ok (.aload_n 0, 1) := by decide +kernel
theorem dX0_termBy_90 : decode cX0_termBy 90 = .ok (.getfield 54, 3) := by decide +kernel
theorem dX0_termBy_93 : decode cX0_termBy 93 = .ok (.iadd, 1) := by decide +kernel
theorem dX0_termBy_94 : decode cX0_termBy 94 = .ok (.ireturn, 1) := by decide +kernel
theorem dX0_termBy_95 : decode cX0_termBy 95 = .ok (.aload_n 0, 1) := by decide +kernel
theorem dX0_termBy_96 : decode cX0_termBy 96 = .ok (.getfield 28, 3) := by decide +kernel
theorem dX0_termBy_99 : decode cX0_termBy 99 = .ok (.aload_n 0, 1) := by decide +kernel
theorem dX0_termBy_100 : decode cX0_termBy 100 = .ok (.getfield 12, 3) := by decide +kernel
theorem dX0_termBy_103 : decode cX0_termBy 103 = .ok (.getfield 60, 3) := by decide +kernel
theorem dX0_termBy_106 : decode cX0_termBy 106 = .ok (.iload_n 1, 1) := by decide +kernel
theorem dX0_termBy_107 : decode cX0_termBy 107 = .ok (.iconst 5, 1) := by decide +kernel
theorem dX0_termBy_108 : decode cX0_termBy 108 = .ok (.iadd, 1) := by decide +kernel
theorem dX0_termBy_109 : decode cX0_termBy 109 = .ok (.iaload, 1) := by decide +kernel
theorem dX0_termBy_110 : decode cX0_termBy 110 = .ok (.iconst 1, 1) := by decide +kernel
theorem dX0_termBy_111 : decode cX0_termBy 111 = .ok (.iand, 1) := by decide +kernel
theorem dX0_termBy_112 : decode cX0_termBy 112 = .ok (.iaload, 1) := by decide +kernel
theorem dX0_termBy_113 : decode cX0_termBy 113 = .ok (.istore_n 3, 1) := by decide +kernel
theorem dX0_termBy_114 : decode cX0_termBy 114 = .ok (.iload_n 3, 1) := by decide +kernel
theorem dX0_termBy_115 : decode cX0_termBy 115 = .ok (.sipush 9999, 3) := by decide +kernel
theorem dX0_termBy_118 : decode cX0_termBy 118 = .ok (.if_icmp .ne 7, 3) := by decide +kernel
theorem dX0_termBy_121 : decode cX0_termBy 121 = .ok (.sipush 9999, 3) := by decide +kernel
theorem dX0_termBy_124 : decode cX0_termBy 124 = .ok (.ireturn, 1) := by decide +kernel
theorem dX0_termBy_125 : decode cX0_termBy 125 = .ok (.iload_n 3, 1) := by decide +kernel
theorem dX0_termBy_126 : decode cX0_termBy 126 = .ok (.aload_n 0, 1) := by decide +kernel
theorem dX0_termBy_127 : decode cX0_termBy 127 = .ok (.getfield 12, 3) := by decide +kernel
theorem dX0_termBy_130 : decode cX0_termBy 130 = .ok (.getfield 60, 3) := by decide +kernel
theorem dX0_termBy_133 : decode cX0_termBy 133 = .ok (.iload_n 1, 1) := by decide +kernel
theorem dX0_termBy_134 : decode cX0_termBy 134 = .ok (.iconst 1, 1) := by decide +kernel
theorem dX0_termBy_135 : decode cX0_termBy 135 = .ok (.iadd, 1) := by decide +kernel
theorem dX0_termBy_136 : decode cX0_termBy 136 = .ok (.iaload, 1) := by decide +kernel
theorem dX0_termBy_137 : decode cX0_termBy 137 = .ok (.iadd, 1) := by decide +kernel
theorem dX0_termBy_138 : decode cX0_termBy 138 = .ok (.istore 4, 2) := by decide +kernel
theorem dX0_termBy_140 : decode cX0_termBy 140 = .ok (.aload_n 0, 1) := by decide +kernel
theorem dX0_termBy_141 : decode cX0_termBy 141 = .ok (.getfield 57, 3) := by decide +kernel
theorem dX0_termBy_144 : decode cX0_termBy 144 = .ok (.iload 4, 2) := by decide +kernel
theorem dX0_termBy_146 : decode cX0_termBy 146 = .ok (.if_icmp .le 22, 3) := by decide +kernel
theorem dX0_termBy_149 : decode cX0_termBy 149 = .ok (.aload_n 0, 1) := by decide +kernel
theorem dX0_termBy_150 : decode cX0_termBy 150 = .ok (.getfield 57, 3) := by decide +kernel
theorem dX0_termBy_153 : decode cX0_termBy 153 = .ok (.aload_n 0, 1) := by decide +kernel
theorem dX0_termBy_154 : decode cX0_termBy 154 = .ok (.getfield 12, 3) := by decide +kernel
theorem dX0_termBy_157 : decode cX0_termBy 157 = .ok (.getfield 60, 3) := by decide +kernel
theorem dX0_termBy_160 : decode cX0_termBy 160 = .ok (.iload_n 1, 1) := by decide +kernel
theorem dX0_termBy_161 : decode cX0_termBy 161 = .ok (.iconst 4, 1) := by decide +kernel
theorem dX0_termBy_162 : decode cX0_termBy 162 = .ok (.iadd, 1) := by decide +kernel
theorem dX0_termBy_163 : decode cX0_termBy 163 = .ok (.iaload, 1) := by decide +kernel
theorem dX0_termBy_164 : decode cX0_termBy 164 = .ok (.iadd, 1) := by decide +kernel
theorem dX0_termBy_165 : decode cX0_termBy 165 = .ok (.goto 5, 3) := by decide +kernel
theorem dX0_termBy_168 : decode cX0_termBy 168 = .ok (.iload 4, 2) := by decide +kernel
theorem dX0_termBy_170 : decode cX0_termBy 170 = .ok (.ireturn, 1) := by decide +kernel
theorem dX0_termIn_0 : decode cX0_termIn 0 = .ok (.aload_n 0, 1) := by decide +kernel
theorem dX0_termIn_1 : decode cX0_termIn 1 = .ok (.aload_n 0, 1) := by decide +kernel
theorem dX0_termIn_2 : decode cX0_termIn 2 = .ok (.getfield 22, 3) := by decide +kernel
theorem dX0_termIn_5 : decode cX0_termIn 5 = .ok (.iload_n 1, 1) := by decide +kernel
theorem dX0_termIn_6 : decode cX0_termIn 6 = .ok (.iaload, 1) := by decide +kernel
theorem dX0_termIn_7 : decode cX0_termIn 7 = .ok (.invokevirtual 99, 3) := by decide +kernel
theorem dX0_termIn_10 : decode cX0_termIn 10 = .ok (.istore_n 2, 1) := by decide +kernel
theorem dX0_termIn_11 : decode cX0_termIn 11 = .ok (.aload_n 0, 1) := by decide +kernel
theorem dX0_termIn_12 : decode cX0_termIn 12 = .ok (.getfield 12, 3) := by decide +kernel
theorem dX0_termIn_15 : decode cX0_termIn 15 = .ok (.getfield 60, 3) := by decide +kernel
theorem dX0_termIn_18 : decode cX0_termIn 18 = .ok (.aload_n 0, 1) := by decide +kernel
theorem dX0_termIn_19 : decode cX0_termIn 19 = .ok (.getfield 22, 3) := by decide +kernel
theorem dX0_termIn_22 : decode cX0_termIn 22 = .ok (.iload_n 1, 1) := by decide +kernel
theorem dX0_termIn_23 : decode cX0_termIn 23 = .ok (.iaload, 1) := by decide +kernel
theorem dX0_termIn_24 : decode cX0_termIn 24 = .ok (.iconst 5, 1) := by decide +kernel
theorem dX0_termIn_25 : decode cX0_termIn 25 = .ok (.iadd, 1) := by decide +kernel
theorem dX0_termIn_26 : decode cX0_termIn 26 = .ok (.iaload, 1) := by decide +kernel
theorem dX0_termIn_27 : decode cX0_termIn 27 = .ok (.bipush 8, 2) := by decide +kernel
theorem dX0_termIn_29 : decode cX0_termIn 29 = .ok (.iand, 1) := by decide +kernel
theorem dX0_termIn_30 : decode cX0_termIn 30 = .ok (.ifCond .eq 7, 3) := by decide +kernel
theorem dX0_termIn_33 : decode cX0_termIn 33 = .ok (.iconst 1, 1) := by decide +kernel
theorem dX0_termIn_34 : decode cX0_termIn 34 = .ok (.goto 4, 3) := by decide +kernel
theorem dX0_termIn_37 : decode cX0_termIn 37 = .ok (.iconst 0, 1) := by decide +kernel
theorem dX0_termIn_38 : decode cX0_termIn 38 = .ok (.istore_n 3, 1) := by decide +kernel
theorem dX0_termIn_39 : decode cX0_termIn 39 = .ok (.iload_n 3, 1) := by decide +kernel
theorem dX0_termIn_40 : decode cX0_termIn 40 = .ok (.ifCond .eq 31, 3) := by decide +kernel
theorem dX0_termIn_43 : decode cX0_termIn 43 = .ok (.aload_n 0, 1) := by decide +kernel
theorem dX0_termIn_44 : decode cX0_termIn 44 = .ok (.getfield 41, 3) := by decide +kernel
theorem dX0_termIn_47 : decode cX0_termIn 47 = .ok (.aload_n 0, 1) := by decide +kernel
theorem dX0_termIn_48 : decode cX0_termIn 48 = .ok (.getfield 51, 3) := by decide +kernel
theorem dX0_termIn_51 : decode cX0_termIn 51 = .ok (.if_icmp .eq 20, 3) := by decide +kernel
theorem dX0_termIn_54 : decode cX0_termIn 54 = .ok (.iload_n 2, 1) := by decide +kernel
theorem dX0_termIn_55 : decode cX0_termIn 55 = .ok (.aload_n 0, 1) := by decide +kernel
theorem dX0_termIn_56 : decode cX0_termIn 56 = .ok (.aload_n 0, 1) := by decide +kernel
theorem dX0_termIn_57 : decode cX0_termIn 57 = .ok (.getfield 25, 3) := by decide +kernel
theorem dX0_termIn_60 : decode cX0_termIn 60 = .ok (.iload_n 1, 1) := by decide +kernel
theorem dX0_termIn_61 : decode cX0_termIn 61 = .ok (.iaload, 1) := by decide +kernel
theorem dX0_termIn_62 : decode cX0_termIn 62 = .ok (.invokevirtual 99, 3) := by decide +kernel
theorem dX0_termIn_65 : decode cX0_termIn 65 = .ok (.invokestatic 103, 3) := by decide +kernel
theorem dX0_termIn_68 : decode cX0_termIn 68 = .ok (.goto 4, 3) := by decide +kernel
theorem dX0_termIn_71 : decode cX0_termIn 71 = .ok (.iload_n 2, 1) := by decide +kernel
theorem dX0_termIn_72 : decode cX0_termIn 72 = .ok (.ireturn, 1) := by decide +kernel
theorem dX0_followEarliestDeaths_0 : decode cX0_followEarliestDeaths 0 = .ok (.aload_n 0, 1) := by decide +kernel
theorem dX0_followEarliestDeaths_1 : decode cX0_followEarliestDeaths 1 = .ok (.iconst 0, 1) := by decide +kernel
theorem dX0_followEarliestDeaths_2 : decode cX0_followEarliestDeaths 2 = .ok (.invokevirtual 108, 3) := by decide +kernel
theorem dX0_followEarliestDeaths_5 : decode cX0_followEarliestDeaths 5 = .ok (.pop, 1) := by decide +kernel
theorem dX0_followEarliestDeaths_6 : decode cX0_followEarliestDeaths 6 = .ok (.aload_n 0, 1) := by decide +kernel
theorem dX0_followEarliestDeaths_7 : decode cX0_followEarliestDeaths 7 = .ok (.invokevirtual 111, 3) := by decide +kernel
theorem dX0_followEarliestDeaths_10 : decode cX0_followEarliestDeaths 10 = .ok (.return_, 1) := by decide +kernel
theorem dX0_follow_0 : decode cX0_follow 0 = .ok (.aload_n 0, 1) := by decide +kernel
theorem dX0_follow_1 : decode cX0_follow 1 = .ok (.aload_n 0, 1) := by decide +kernel
theorem dX0_follow_2 : decode cX0_follow 2 = .ok (.iconst 0, 1) := by decide +kernel
theorem dX0_follow_3 : decode cX0_follow 3 = .ok (.invokevirtual 114, 3) := by decide +kernel
theorem dX0_follow_6 : decode cX0_follow 6 = .ok (.putfield 117, 3) := by decide +kernel
theorem dX0_follow_9 : decode cX0_follow 9 = .ok (.aload_n 0, 1) := by decide +kernel
theorem dX0_follow_10 : decode cX0_follow 10 = .ok (.iconst 0, 1) := by decide +kernel
theorem dX0_follow_11 : decode cX0_follow 11 = .ok (.putfield 120, 3) := by decide +kernel
theorem dX0_follow_14 : decode cX0_follow 14 = .ok (.aload_n 0, 1) := by decide +kernel
theorem dX0_follow_15 : decode cX0_follow 15 = .ok (.ldc 123, 2) := by decide +kernel
theorem dX0_follow_17 : decode cX0_follow 17 = .ok (.putfield 124, 3) := by decide +kernel
theorem dX0_follow_20 : decode cX0_follow 20 = .ok (.iconst 1, 1) := by decide +kernel
theorem dX0_follow_21 : decode cX0_follow 21 = .ok (.istore_n 1, 1) := by decide +kernel
theorem dX0_follow_22 : decode cX0_follow 22 = .ok (.iload_n 1, 1) := by decide +kernel
theorem dX0_follow_23 : decode cX0_follow 23 = .ok (.aload_n 0, 1) := by decide +kernel
theorem dX0_follow_24 : decode cX0_follow 24 = .ok (.getfield 66, 3) := by decide +kernel
theorem dX0_follow_27 : decode cX0_follow 27 = .ok (.if_icmp .ge 160, 3) := by decide +kernel
theorem dX0_follow_30 : decode cX0_follow 30 = .ok (.aload_n 0, 1) := by decide +kernel
theorem dX0_follow_31 : decode cX0_follow 31 = .ok (.getfield 18, 3) := by decide +kernel
theorem dX0_follow_34 : decode cX0_follow 34 = .ok (.iload_n 1, 1) := by decide +kernel
theorem dX0_follow_35 : decode cX0_follow 35 = .ok (.iaload, 1) := by decide +kernel
theorem dX0_follow_36 : decode cX0_follow 36 = .ok (.istore_n 2, 1) := by decide +kernel
theorem dX0_follow_37 : decode cX0_follow 37 = .ok (.aload_n 0, 1) := by decide +kernel
theorem dX0_follow_38 : decode cX0_follow 38 = .ok (.getfield 12, 3) := by decide +kernel
theorem dX0_follow_41 : decode cX0_follow 41 = .ok (.getfield 60, 3) := by decide +kernel
theorem dX0_follow_44 : decode cX0_follow 44 = .ok (.aload_n 0, 1) := by decide +kernel
theorem dX0_follow_45 : decode cX0_follow 45 = .ok (.getfield 22, 3) := by decide +kernel
theorem dX0_follow_48 : decode cX0_follow 48 = .ok (.iload_n 1, 1) := by decide +kernel
theorem dX0_follow_49 : decode cX0_follow 49 = .ok (.iaload, 1) := by decide +kernel
theorem dX0_follow_50 : decode cX0_follow 50 = .ok (.iconst 5, 1) := by decide +kernel
theorem dX0_follow_51 : decode cX0_follow 51 = .ok (.iadd, 1) := by decide +kernel
theorem dX0_follow_52 : decode cX0_follow 52 = .ok (.iaload, 1) := by decide +kernel
theorem dX0_follow_53 : decode cX0_follow 53 = .ok (.istore_n 3, 1) := by decide +kernel
theorem dX0_follow_54 : decode cX0_follow 54 = .ok (.aload_n 0, 1) := by decide +kernel
theorem dX0_follow_55 : decode cX0_follow 55 = .ok (.iload_n 1, 1) := by decide +kernel
theorem dX0_follow_56 : decode cX0_follow 56 = .ok (.invokevirtual 114, 3) := by decide +kernel
theorem dX0_follow_59 : decode cX0_follow 59 = .ok (.istore 4, 2) := by decide +kernel
theorem dX0_follow_61 : decode cX0_follow 61 = .ok (.aload_n 0, 1) := by decide +kernel
theorem dX0_follow_62 : decode cX0_follow 62 = .ok (.getfield 117, 3) := by decide +kernel
theorem dX0_follow_65 : decode cX0_follow 65 = .ok (.istore 5, 2) := by decide +kernel
theorem dX0_follow_67 : decode cX0_follow 67 = .ok (.aload_n 0, 1) := by decide +kernel
theorem dX0_follow_68 : decode cX0_follow 68 = .ok (.getfield 117, 3) := by decide +kernel
theorem dX0_follow_71 : decode cX0_follow 71 = .ok (.iload_n 2, 1) := by decide +kernel
theorem dX0_follow_72 : decode cX0_follow 72 = .ok (.if_icmp .lt 40, 3) := by decide +kernel
theorem dX0_follow_75 : decode cX0_follow 75 = .ok (.iload_n 3, 1) := by decide +kernel
theorem dX0_follow_76 : decode cX0_follow 76 = .ok (.iconst 2, 1) := by decide +kernel
theorem dX0_follow_77 : decode cX0_follow 77 = .ok (.iand, 1) := by decide +kernel
theorem dX0_follow_78 : decode cX0_follow 78 = .ok (.ifCond .eq 15, 3) := by decide +kernel
theorem dX0_follow_81 : decode cX0_follow 81 = .ok (.aload_n 0, 1) := by decide +kernel
theorem dX0_follow_82 : decode cX0_follow 82 = .ok (.getfield 117, 3) := by decide +kernel
theorem dX0_follow_85 : decode cX0_follow 85 = .ok (.iload 4, 2) := by decide +kernel
theorem dX0_follow_87 : decode cX0_follow 87 = .ok (.invokestatic 127, 3) := by decide +kernel
theorem dX0_follow_90 : decode cX0_follow 90 = .ok (.goto 5, 3) := by decide +kernel
theorem dX0_follow_93 : decode cX0_follow 93 = .ok (.iload 4, 2) := by decide +kernel
theorem dX0_follow_95 : decode cX0_follow 95 = .ok (.istore 6, 2) := by decide +kernel
theorem dX0_follow_97 : decode cX0_follow 97 = .ok (.aload_n 0, 1) := by decide +kernel
theorem dX0_follow_98 : decode cX0_follow 98 = .ok (.iload 6, 2) := by decide +kernel
theorem dX0_follow_100 : decode cX0_follow 100 = .ok (.iload_n 2, 1) := by decide +kernel
theorem dX0_follow_101 : decode cX0_follow 101 = .ok (.iconst 1, 1) := by decide +kernel
theorem dX0_follow_102 : decode cX0_follow 102 = .ok (.isub, 1) := by decide +kernel
theorem dX0_follow_103 : decode cX0_follow 103 = .ok (.invokestatic 127, 3) := by decide +kernel
theorem dX0_follow_106 : decode cX0_follow 106 = .ok (.putfield 117, 3) := by decide +kernel
theorem dX0_follow_109 : decode cX0_follow 109 = .ok (.goto 58, 3) := by decide +kernel
theorem dX0_follow_112 : decode cX0_follow 112 = .ok (.iload_n 3, 1) := by decide +kernel
theorem dX0_follow_113 : decode cX0_follow 113 = .ok (.iconst 4, 1) := by decide +kernel
theorem dX0_follow_114 : decode cX0_follow 114 = .ok (.iand, 1) := by decide +kernel
theorem dX0_follow_115 : decode cX0_follow 115 = .ok (.ifCond .eq 52, 3) := by decide +kernel
theorem dX0_follow_118 : decode cX0_follow 118 = .ok (.iload 4, 2) := by decide +kernel
theorem dX0_follow_120 : decode cX0_follow 120 = .ok (.iload_n 2, 1) := by decide +kernel
theorem dX0_follow_121 : decode cX0_follow 121 = .ok (.if_icmp .lt 46, 3) := by decide +kernel
theorem dX0_follow_124 : decode cX0_follow 124 = .ok (.aload_n 0, 1) := by decide +kernel
theorem dX0_follow_125 : decode cX0_follow 125 = .ok (.getfield 31, 3) := by decide +kernel
theorem dX0_follow_128 : decode cX0_follow 128 = .ok (.aload_n 0, 1) := by decide +kernel
theorem dX0_follow_129 : decode cX0_follow 129 = .ok (.getfield 120, 3) := by decide +kernel
theorem dX0_follow_132 : decode cX0_follow 132 = .ok (.aload_n 0, 1) := by decide +kernel
theorem dX0_follow_133 : decode cX0_follow 133 = .ok (.getfield 117, 3) := by decide +kernel
theorem dX0_follow_136 : decode cX0_follow 136 = .ok (.iconst 1, 1) := by decide +kernel
theorem dX0_follow_137 : decode cX0_follow 137 = .ok (.iadd, 1) := by decide +kernel
theorem dX0_follow_138 : decode cX0_follow 138 = .ok (.iastore, 1) := by decide +kernel
theorem dX0_follow_139 : decode cX0_follow 139 = .ok (.aload_n 0, 1) := by decide +kernel
theorem dX0_follow_140 : decode cX0_follow 140 = .ok (.getfield 34, 3) := by decide +kernel
theorem dX0_follow_143 : decode cX0_follow 143 = .ok (.aload_n 0, 1) := by decide +kernel
theorem dX0_follow_144 : decode cX0_follow 144 = .ok (.getfield 120, 3) := by decide +kernel
theorem dX0_follow_147 : decode cX0_follow 147 = .ok (.iload_n 2, 1) := by decide +kernel
theorem dX0_follow_148 : decode cX0_follow 148 = .ok (.iconst 1, 1) := by decide +kernel
theorem dX0_follow_149 : decode cX0_follow 149 = .ok (.isub, 1) := by decide +kernel
theorem dX0_follow_150 : decode cX0_follow 150 = .ok (.iastore, 1) := by decide +kernel
theorem dX0_follow_151 : decode cX0_follow 151 = .ok (.aload_n 0, 1) := by decide +kernel
theorem dX0_follow_152 : decode cX0_follow 152 = .ok (.dup, 1) := by decide +kernel
theorem dX0_follow_153 : decode cX0_follow 153 = .ok (.getfield 120, 3) := by decide +kernel
theorem dX0_follow_156 : decode cX0_follow 156 = .ok (.iconst 1, 1) := by decide +kernel
theorem dX0_follow_157 : decode cX0_follow 157 = .ok (.iadd, 1) := by decide +kernel
theorem dX0_follow_158 : decode cX0_follow 158 = .ok (.putfield 120, 3) := by decide +kernel
theorem dX0_follow_161 : decode cX0_follow 161 = .ok (.aload_n 0, 1) := by decide +kernel
theorem dX0_follow_162 : decode cX0_follow 162 = .ok (.iload 4, 2) := by decide +kernel
theorem dX0_follow_164 : decode cX0_follow 164 = .ok (.putfield 117, 3) := by decide +kernel
theorem dX0_follow_167 : decode cX0_follow 167 = .ok (.aload_n 0, 1) := by decide +kernel
theorem dX0_follow_168 : decode cX0_follow 168 = .ok (.getfield 117, 3) := by decide +kernel
theorem dX0_follow_171 : decode cX0_follow 171 = .ok (.iload 5, 2) := by decide +kernel
theorem dX0_follow_173 : decode cX0_follow 173 = .ok (.if_icmp .eq 8, 3) := by decide +kernel
theorem dX0_follow_176 : decode cX0_follow 176 = .ok (.aload_n 0, 1) := by decide +kernel
theorem dX0_follow_177 : decode cX0_follow 177 = .ok (.iload_n 2, 1) := by decide +kernel
theorem dX0_follow_178 : decode cX0_follow 178 = .ok (.putfield 124, 3) := by decide +kernel
theorem dX0_follow_181 : decode cX0_follow 181 = .ok (.iinc 1 1, 3) := by decide +kernel
theorem dX0_follow_184 : decode cX0_follow 184 = .ok (.goto (-162), 3) := by decide +kernel
theorem dX0_follow_187 : decode cX0_follow 187 = .ok (.return_, 1) := by decide +kernel
theorem dX0_weigh_0 : decode cX0_weigh 0 = .ok (.aload_n 0, 1) := by decide +kernel
theorem dX0_weigh_1 : decode cX0_weigh 1 = .ok (.getfield 12, 3) := by decide +kernel
theorem dX0_weigh_4 : decode cX0_weigh 4 = .ok (.aload_n 0, 1) := by decide +kernel
theorem dX0_weigh_5 : decode cX0_weigh 5 = .ok (.getfield 37, 3) := by decide +kernel
theorem dX0_weigh_8 : decode cX0_weigh 8 = .ok (.invokevirtual 130, 3) := by decide +kernel
theorem dX0_weigh_11 : decode cX0_weigh 11 = .ok (.istore_n 1, 1) := by decide +kernel
theorem dX0_weigh_12 : decode cX0_weigh 12 = .ok (.iconst 0, 1) := by decide +kernel
theorem dX0_weigh_13 : decode cX0_weigh 13 = .ok (.istore_n 2, 1) := by decide +kernel
theorem dX0_weigh_14 : decode cX0_weigh 14 = .ok (.iload_n 2, 1) := by decide +kernel
theorem dX0_weigh_15 : decode cX0_weigh 15 = .ok (.iload_n 1, 1) := by decide +kernel
theorem dX0_weigh_16 : decode cX0_weigh 16 = .ok (.if_icmp .gt 95, 3) := by decide +kernel
theorem dX0_weigh_19 : decode cX0_weigh 19 = .ok (.aload_n 0, 1) := by decide +kernel
theorem dX0_weigh_20 : decode cX0_weigh 20 = .ok (.iload_n 2, 1) := by decide +kernel
theorem dX0_weigh_21 : decode cX0_weigh 21 = .ok (.invokevirtual 108, 3) := by decide +kernel
theorem dX0_weigh_24 : decode cX0_weigh 24 = .ok (.istore_n 3, 1) := by decide +kernel
theorem dX0_weigh_25 : decode cX0_weigh 25 = .ok (.iload_n 2, 1) := by decide +kernel
theorem dX0_weigh_26 : decode cX0_weigh 26 = .ok (.ifCond .eq 7, 3) := by decide +kernel
theorem dX0_weigh_29 : decode cX0_weigh 29 = .ok (.iload_n 3, 1) := by decide +kernel
theorem dX0_weigh_30 : decode cX0_weigh 30 = .ok (.ifCond .eq 75, 3) := by decide +kernel
theorem dX0_weigh_33 : decode cX0_weigh 33 = .ok (.aload_n 0, 1) := by decide +kernel
theorem dX0_weigh_34 : decode cX0_weigh 34 = .ok (.invokevirtual 111, 3) := by decide +kernel
theorem dX0_weigh_37 : decode cX0_weigh 37 = .ok (.aload_n 0, 1) := by decide +kernel
theorem dX0_weigh_38 : decode cX0_weigh 38 = .ok (.getfield 117, 3) := by decide +kernel
theorem dX0_weigh_41 : decode cX0_weigh 41 = .ok (.sipush 9999, 3) := by decide +kernel
theorem dX0_weigh_44 : decode cX0_weigh 44 = .ok (.if_icmp .ne 9, 3) := by decide +kernel
theorem dX0_weigh_47 : decode cX0_weigh 47 = .ok (.sipush 9999, 3) := by decide +kernel
theorem dX0_weigh_50 : decode cX0_weigh 50 = .ok (.goto 9, 3) := by decide +kernel
theorem dX0_weigh_53 : decode cX0_weigh 53 = .ok (.aload_n 0, 1) := by decide +kernel
theorem dX0_weigh_54 : decode cX0_weigh 54 = .ok (.getfield 117, 3) := by decide +kernel
theorem dX0_weigh_57 : decode cX0_weigh 57 = .ok (.iconst 1, 1) := by decide +kernel
theorem dX0_weigh_58 : decode cX0_weigh 58 = .ok (.iadd, 1) := by decide +kernel
theorem dX0_weigh_59 : decode cX0_weigh 59 = .ok (.istore 4, 2) := by decide +kernel
theorem dX0_weigh_61 : decode cX0_weigh 61 = .ok (.aload_n 0, 1) := by decide +kernel
theorem dX0_weigh_62 : decode cX0_weigh 62 = .ok (.iload_n 2, 1) := by decide +kernel
theorem dX0_weigh_63 : decode cX0_weigh 63 = .ok (.ifCond .ne 8, 3) := by decide +kernel
theorem dX0_weigh_66 : decode cX0_weigh 66 = .ok (.iload 4, 2) := by decide +kernel
theorem dX0_weigh_68 : decode cX0_weigh 68 = .ok (.goto 12, 3) := by decide +kernel
theorem dX0_weigh_71 : decode cX0_weigh 71 = .ok (.aload_n 0, 1) := by decide +kernel
theorem dX0_weigh_72 : decode cX0_weigh 72 = .ok (.getfield 133, 3) := by decide +kernel
theorem dX0_weigh_75 : decode cX0_weigh 75 = .ok (.iload 4, 2) := by decide +kernel
theorem dX0_weigh_77 : decode cX0_weigh 77 = .ok (.invokestatic 103, 3) := by decide +kernel
theorem dX0_weigh_80 : decode cX0_weigh 80 = .ok (.putfield 133, 3) := by decide +kernel
theorem dX0_weigh_83 : decode cX0_weigh 83 = .ok (.aload_n 0, 1) := by decide +kernel
theorem dX0_weigh_84 : decode cX0_weigh 84 = .ok (.iload_n 2, 1) := by decide +kernel
theorem dX0_weigh_85 : decode cX0_weigh 85 = .ok (.ifCond .ne 8, 3) := by decide +kernel
theorem dX0_weigh_88 : decode cX0_weigh 88 = .ok (.iload 4, 2) := by decide +kernel
theorem dX0_weigh_90 : decode cX0_weigh 90 = .ok (.goto 12, 3) := by decide +kernel
theorem dX0_weigh_93 : decode cX0_weigh 93 = .ok (.aload_n 0, 1) := by decide +kernel
theorem dX0_weigh_94 : decode cX0_weigh 94 = .ok (.getfield 136, 3) := by decide +kernel
theorem dX0_weigh_97 : decode cX0_weigh 97 = .ok (.iload 4, 2) := by decide +kernel
theorem dX0_weigh_99 : decode cX0_weigh 99 = .ok (.invokestatic 127, 3) := by decide +kernel
theorem dX0_weigh_102 : decode cX0_weigh 102 = .ok (.putfield 136, 3) := by decide +kernel
theorem dX0_weigh_105 : decode cX0_weigh 105 = .ok (.iinc 2 1, 3) := by decide +kernel
theorem dX0_weigh_108 : decode cX0_weigh 108 = .ok (.goto (-94), 3) := by decide +kernel
theorem dX0_weigh_111 : decode cX0_weigh 111 = .ok (.return_, 1) := by decide +kernel
theorem dX0_protects_0 : decode cX0_protects 0 = .ok (.aload_n 0, 1) := by decide +kernel
theorem dX0_protects_1 : decode cX0_protects 1 = .ok (.getfield 12, 3) := by decide +kernel
theorem dX0_protects_4 : decode cX0_protects 4 = .ok (.aload_n 0, 1) := by decide +kernel
theorem dX0_protects_5 : decode cX0_protects 5 = .ok (.getfield 37, 3) := by decide +kernel
theorem dX0_protects_8 : decode cX0_protects 8 = .ok (.invokevirtual 130, 3) := by decide +kernel
theorem dX0_protects_11 : decode cX0_protects 11 = .ok (.istore_n 2, 1) := by decide +kernel
theorem dX0_protects_12 : decode cX0_protects 12 = .ok (.iconst 0, 1) := by decide +kernel
theorem dX0_protects_13 : decode cX0_protects 13 = .ok (.istore_n 3, 1) := by decide +kernel
theorem dX0_protects_14 : decode cX0_protects 14 = .ok (.iconst 1, 1) := by decide +kernel
theorem dX0_protects_15 : decode cX0_protects 15 = .ok (.istore 4, 2) := by decide +kernel
theorem dX0_protects_17 : decode cX0_protects 17 = .ok (.iconst 0, 1) := by decide +kernel
theorem dX0_protects_18 : decode cX0_protects 18 = .ok (.istore 5, 2) := by decide +kernel
theorem dX0_protects_20 : decode cX0_protects 20 = .ok (.iload 5, 2) := by decide +kernel
theorem dX0_protects_22 : decode cX0_protects 22 = .ok (.iload_n 2, 1) := by decide +kernel
theorem dX0_protects_23 : decode cX0_protects 23 = .ok (.if_icmp .gt 70, 3) := by decide +kernel
theorem dX0_protects_26 : decode cX0_protects 26 = .ok (.aload_n 0, 1) := by decide +kernel
theorem dX0_protects_27 : decode cX0_protects 27 = .ok (.iload 5, 2) := by decide +kernel
theorem dX0_protects_29 : decode cX0_protects 29 = .ok (.invokevirtual 108, 3) := by decide +kernel
theorem dX0_protects_32 : decode cX0_protects 32 = .ok (.istore 6, 2) := by decide +kernel
theorem dX0_protects_34 : decode cX0_protects 34 = .ok (.iload 5, 2) := by decide +kernel
theorem dX0_protects_36 : decode cX0_protects 36 = .ok (.ifCond .eq 8, 3) := by decide +kernel
theorem dX0_protects_39 : decode cX0_protects 39 = .ok (.iload 6, 2) := by decide +kernel
theorem dX0_protects_41 : decode cX0_protects 41 = .ok (.ifCond .eq 46, 3) := by decide +kernel
theorem dX0_protects_44 : decode cX0_protects 44 = .ok (.aload_n 0, 1) := by decide +kernel
theorem dX0_protects_45 : decode cX0_protects 45 = .ok (.invokevirtual 111, 3) := by decide +kernel
theorem dX0_protects_48 : decode cX0_protects 48 = .ok (.aload_n 0, 1) := by decide +kernel
theorem dX0_protects_49 : decode cX0_protects 49 = .ok (.iload_n 1, 1) := by decide +kernel
theorem dX0_protects_50 : decode cX0_protects 50 = .ok (.invokevirtual 139, 3) := by decide +kernel
theorem dX0_protects_53 : decode cX0_protects 53 = .ok (.istore 7, 2) := by decide +kernel
theorem dX0_protects_55 : decode cX0_protects 55 = .ok (.iload_n 3, 1) := by decide +kernel
theorem dX0_protects_56 : decode cX0_protects 56 = .ok (.ifCond .ne 8, 3) := by decide +kernel
theorem dX0_protects_59 : decode cX0_protects 59 = .ok (.iload 7, 2) := by decide +kernel
theorem dX0_protects_61 : decode cX0_protects 61 = .ok (.ifCond .eq 7, 3) := by decide +kernel
theorem dX0_protects_64 : decode cX0_protects 64 = .ok (.iconst 1, 1) := by decide +kernel
theorem dX0_protects_65 : decode cX0_protects 65 = .ok (.goto 4, 3) := by decide +kernel
theorem dX0_protects_68 : decode cX0_protects 68 = .ok (.iconst 0, 1) := by decide +kernel
theorem dX0_protects_69 : decode cX0_protects 69 = .ok (.istore_n 3, 1) := by decide +kernel
theorem dX0_protects_70 : decode cX0_protects 70 = .ok (.iload 4, 2) := by decide +kernel
theorem dX0_protects_72 : decode cX0_protects 72 = .ok (.ifCond .eq 12, 3) := by decide +kernel
theorem dX0_protects_75 : decode cX0_protects 75 = .ok (.iload 7, 2) := by decide +kernel
theorem dX0_protects_77 : decode cX0_protects 77 = .ok (.ifCond .eq 7, 3) := by decide +kernel
theorem dX0_protects_80 : decode cX0_protects 80 = .ok (.iconst 1, 1) := by decide +kernel
theorem dX0_protects_81 : decode cX0_protects 81 = .ok (.goto 4, 3) := by decide +kernel
theorem dX0_protects_84 : decode cX0_protects 84 = .ok (.iconst 0, 1) := by decide +kernel
theorem dX0_protects_85 : decode cX0_protects 85 = .ok (.istore 4, 2) := by decide +kernel
theorem dX0_protects_87 : decode cX0_protects 87 = .ok (.iinc 5 1, 3) := by decide +kernel
theorem dX0_protects_90 : decode cX0_protects 90 = .ok (.goto (-70), 3) := by decide +kernel
theorem dX0_protects_93 : decode cX0_protects 93 = .ok (.iload 4, 2) := by decide +kernel
theorem dX0_protects_95 : decode cX0_protects 95 = .ok (.ifCond .eq 5, 3) := by decide +kernel
theorem dX0_protects_98 : decode cX0_protects 98 = .ok (.iconst 1, 1) := by decide +kernel
theorem dX0_protects_99 : decode cX0_protects 99 = .ok (.ireturn, 1) := by decide +kernel
theorem dX0_protects_100 : decode cX0_protects 100 = .ok (.iload_n 3, 1) := by decide +kernel
theorem dX0_protects_101 : decode cX0_protects 101 = .ok (.ifCond .eq 7, 3) := by decide +kernel
theorem dX0_protects_104 : decode cX0_protects 104 = .ok (.iconst 2, 1) := by decide +kernel
theorem dX0_protects_105 : decode cX0_protects 105 = .ok (.goto 4, 3) := by decide +kernel
theorem dX0_protects_108 : decode cX0_protects 108 = .ok (.iconst 0, 1) := by decide +kernel
theorem dX0_protects_109 : decode cX0_protects 109 = .ok (.ireturn, 1) := by decide +kernel
theorem dX0_covers_0 : decode cX0_covers 0 = .ok (.iconst 0, 1) := by decide +kernel
theorem dX0_covers_1 : decode cX0_covers 1 = .ok (.istore_n 2, 1) := by decide +kernel
theorem dX0_covers_2 : decode cX0_covers 2 = .ok (.iload_n 2, 1) := by decide +kernel
theorem dX0_covers_3 : decode cX0_covers 3 = .ok (.aload_n 0, 1) := by decide +kernel
theorem dX0_covers_4 : decode cX0_covers 4 = .ok (.getfield 120, 3) := by decide +kernel
theorem dX0_covers_7 : decode cX0_covers 7 = .ok (.if_icmp .ge 31, 3) := by decide +kernel
theorem dX0_covers_10 : decode cX0_covers 10 = .ok (.iload_n 1, 1) := by decide +kernel
theorem dX0_covers_11 : decode cX0_covers 11 = .ok (.aload_n 0, 1) := by decide +kernel
theorem dX0_covers_12 : decode cX0_covers 12 = .ok (.getfield 31, 3) := by decide +kernel
theorem dX0_covers_15 : decode cX0_covers 15 = .ok (.iload_n 2, 1) := by decide +kernel
theorem dX0_covers_16 : decode cX0_covers 16 = .ok (.iaload, 1) := by decide +kernel
theorem dX0_covers_17 : decode cX0_covers 17 = .ok (.if_icmp .lt 15, 3) := by decide +kernel
theorem dX0_covers_20 : decode cX0_covers 20 = .ok (.iload_n 1, 1) := by decide +kernel
theorem dX0_covers_21 : decode cX0_covers 21 = .ok (.aload_n 0, 1) := by decide +kernel
theorem dX0_covers_22 : decode cX0_covers 22 = .ok (.getfield 34, 3) := by decide +kernel
theorem dX0_covers_25 : decode cX0_covers 25 = .ok (.iload_n 2, 1) := by decide +kernel
theorem dX0_covers_26 : decode cX0_covers 26 = .ok (.iaload, 1) := by decide +kernel
theorem dX0_covers_27 : decode cX0_covers 27 = .ok (.if_icmp .gt 5, 3) := by decide +kernel
theorem dX0_covers_30 : decode cX0_covers 30 = .ok (.iconst 0, 1) := by decide +kernel
theorem dX0_covers_31 : decode cX0_covers 31 = .ok (.ireturn, 1) := by decide +kernel
theorem dX0_covers_32 : decode cX0_covers 32 = .ok (.iinc 2 1, 3) := by decide +kernel
theorem dX0_covers_35 : decode cX0_covers 35 = .ok (.goto (-33), 3) := by decide +kernel
theorem dX0_covers_38 : decode cX0_covers 38 = .ok (.iload_n 1, 1) := by decide +kernel
theorem dX0_covers_39 : decode cX0_covers 39 = .ok (.aload_n 0, 1) := by decide +kernel
theorem dX0_covers_40 : decode cX0_covers 40 = .ok (.getfield 54, 3) := by decide +kernel
theorem dX0_covers_43 : decode cX0_covers 43 = .ok (.if_icmp .lt 15, 3) := by decide +kernel
theorem dX0_covers_46 : decode cX0_covers 46 = .ok (.iload_n 1, 1) := by decide +kernel
theorem dX0_covers_47 : decode cX0_covers 47 = .ok (.aload_n 0, 1) := by decide +kernel
theorem dX0_covers_48 : decode cX0_covers 48 = .ok (.getfield 117, 3) := by decide +kernel
theorem dX0_covers_51 : decode cX0_covers 51 = .ok (.if_icmp .gt 7, 3) := by decide +kernel
theorem dX0_covers_54 : decode cX0_covers 54 = .ok (.iconst 1, 1) := by decide +kernel
theorem dX0_covers_55 : decode cX0_covers 55 = .ok (.goto 4, 3) := by decide +kernel
theorem dX0_covers_58 : decode cX0_covers 58 = .ok (.iconst 0, 1) := by decide +kernel
theorem dX0_covers_59 : decode cX0_covers 59 = .ok (.ireturn, 1) := by decide +kernel
theorem dX0_edgeOfRow_0 : decode cX0_edgeOfRow 0 = .ok (.aload_n 0, 1) := by decide +kernel
theorem dX0_edgeOfRow_1 : decode cX0_edgeOfRow 1 = .ok (.getfield 54, 3) := by decide +kernel
theorem dX0_edgeOfRow_4 : decode cX0_edgeOfRow 4 = .ok (.istore_n 3, 1) := by decide +kernel
theorem dX0_edgeOfRow_5 : decode cX0_edgeOfRow 5 = .ok (.iconst 0, 1) := by decide +kernel
theorem dX0_edgeOfRow_6 : decode cX0_edgeOfRow 6 = .ok (.istore 4, 2) := by decide +kernel
theorem dX0_edgeOfRow_8 : decode cX0_edgeOfRow 8 = .ok (.iconst 0, 1) := by decide +kernel
theorem dX0_edgeOfRow_9 : decode cX0_edgeOfRow 9 = .ok (.istore 5, 2) := by decide +kernel
theorem dX0_edgeOfRow_11 : decode cX0_edgeOfRow 11 = .ok (.iload 5, 2) := by decide +kernel
theorem dX0_edgeOfRow_13 : decode cX0_edgeOfRow 13 = .ok (.aload_n 0, 1) := by decide +kernel
theorem dX0_edgeOfRow_14 : decode cX0_edgeOfRow 14 = .ok (.getfield 120, 3) := by decide +kernel
theorem dX0_edgeOfRow_17 : decode cX0_edgeOfRow 17 = .ok (.if_icmp .gt 132, 3) := by decide +kernel
theorem dX0_edgeOfRow_20 : decode cX0_edgeOfRow 20 = .ok (.iload 5, 2) := by decide +kernel
theorem dX0_edgeOfRow_22 : decode cX0_edgeOfRow 22 = .ok (.aload_n 0, 1) := by decide +kernel
theorem dX0_edgeOfRow_23 : decode cX0_edgeOfRow 23 = .ok (.getfield 120, 3) := by decide +kernel
theorem dX0_edgeOfRow_26 : decode cX0_edgeOfRow 26 = .ok (.if_icmp .ne 7, 3) := by decide +kernel
theorem dX0_edgeOfRow_29 : decode cX0_edgeOfRow 29 = .ok (.iconst 1, 1) := by decide +kernel
theorem dX0_edgeOfRow_30 : decode cX0_edgeOfRow 30 = .ok (.goto 4, 3) := by decide +kernel
theorem dX0_edgeOfRow_33 : decode cX0_edgeOfRow 33 = .ok (.iconst 0, 1) := by decide +kernel
theorem dX0_edgeOfRow_34 : decode cX0_edgeOfRow 34 = .ok (.istore 6, 2) := by decide +kernel
theorem dX0_edgeOfRow_36 : decode cX0_edgeOfRow 36 = .ok (.iload 6, 2) := by decide +kernel
theorem dX0_edgeOfRow_38 : decode cX0_edgeOfRow 38 = .ok (.ifCond .eq 10, 3) := by decide +kernel
theorem dX0_edgeOfRow_41 : decode cX0_edgeOfRow 41 = .ok (.aload_n 0, 1) := by decide +kernel
theorem dX0_edgeOfRow_42 : decode cX0_edgeOfRow 42 = .ok (.getfield 117, 3) := by decide +kernel
theorem dX0_edgeOfRow_45 : decode cX0_edgeOfRow 45 = .ok (.goto 12, 3) := by decide +kernel
theorem dX0_edgeOfRow_48 : decode cX0_edgeOfRow 48 = .ok (.aload_n 0, 1) := by decide +kernel
theorem dX0_edgeOfRow_49 : decode cX0_edgeOfRow 49 = .ok (.getfield 31, 3) := by decide +kernel
theorem dX0_edgeOfRow_52 : decode cX0_edgeOfRow 52 = .ok (.iload 5, 2) := by decide +kernel
theorem dX0_edgeOfRow_54 : decode cX0_edgeOfRow 54 = .ok (.iaload, 1) := by decide +kernel
theorem dX0_edgeOfRow_55 : decode cX0_edgeOfRow 55 = .ok (.iconst 1, 1) := by decide +kernel
theorem dX0_edgeOfRow_56 : decode cX0_edgeOfRow 56 = .ok (.isub, 1) := by decide +kernel
theorem dX0_edgeOfRow_57 : decode cX0_edgeOfRow 57 = .ok (.istore 7, 2) := by decide +kernel
theorem dX0_edgeOfRow_59 : decode cX0_edgeOfRow 59 = .ok (.iload 6, 2) := by decide +kernel
theorem dX0_edgeOfRow_61 : decode cX0_edgeOfRow 61 = .ok (.ifCond .ne 20, 3) := by decide +kernel
theorem dX0_edgeOfRow_64 : decode cX0_edgeOfRow 64 = .ok (.aload_n 0, 1) := by decide +kernel
theorem dX0_edgeOfRow_65 : decode cX0_edgeOfRow 65 = .ok (.getfield 34, 3) := by decide +kernel
theorem dX0_edgeOfRow_68 : decode cX0_edgeOfRow 68 = .ok (.iload 5, 2) := by decide +kernel
theorem dX0_edgeOfRow_70 : decode cX0_edgeOfRow 70 = .ok (.iaload, 1) := by decide +kernel
theorem dX0_edgeOfRow_71 : decode cX0_edgeOfRow 71 = .ok (.aload_n 0, 1) := by decide +kernel
theorem dX0_edgeOfRow_72 : decode cX0_edgeOfRow 72 = .ok (.getfield 31, 3) := by decide +kernel
theorem dX0_edgeOfRow_75 : decode cX0_edgeOfRow 75 = .ok (.iload 5, 2) := by decide +kernel
theorem dX0_edgeOfRow_77 : decode cX0_edgeOfRow 77 = .ok (.iaload, 1) := by decide +kernel
theorem dX0_edgeOfRow_78 : decode cX0_edgeOfRow 78 = .ok (.if_icmp .lt 7, 3) := by decide +kernel
theorem dX0_edgeOfRow_81 : decode cX0_edgeOfRow 81 = .ok (.iconst 1, 1) := by decide +kernel
theorem dX0_edgeOfRow_82 : decode cX0_edgeOfRow 82 = .ok (.goto 4, 3) := by decide +kernel
theorem dX0_edgeOfRow_85 : decode cX0_edgeOfRow 85 = .ok (.iconst 0, 1) := by decide +kernel
theorem dX0_edgeOfRow_86 : decode cX0_edgeOfRow 86 = .ok (.istore 8, 2) := by decide +kernel
theorem dX0_edgeOfRow_88 : decode cX0_edgeOfRow 88 = .ok (.iload 8, 2) := by decide +kernel
theorem dX0_edgeOfRow_90 : decode cX0_edgeOfRow 90 = .ok (.ifCond .eq 29, 3) := by decide +kernel
theorem dX0_edgeOfRow_93 : decode cX0_edgeOfRow 93 = .ok (.iload_n 3, 1) := by decide +kernel
theorem dX0_edgeOfRow_94 : decode cX0_edgeOfRow 94 = .ok (.iload 7, 2) := by decide +kernel
theorem dX0_edgeOfRow_96 : decode cX0_edgeOfRow 96 = .ok (.if_icmp .gt 23, 3) := by decide +kernel
theorem dX0_edgeOfRow_99 : decode cX0_edgeOfRow 99 = .ok (.iload 4, 2) := by decide +kernel
theorem dX0_edgeOfRow_101 : decode cX0_edgeOfRow 101 = .ok (.iload_n 1, 1) := by decide +kernel
theorem dX0_edgeOfRow_102 : decode cX0_edgeOfRow 102 = .ok (.if_icmp .ne 14, 3) := by decide +kernel
theorem dX0_edgeOfRow_105 : decode cX0_edgeOfRow 105 = .ok (.iload_n 2, 1) := by decide +kernel
theorem dX0_edgeOfRow_106 : decode cX0_edgeOfRow 106 = .ok (.ifCond .ne 7, 3) := by decide +kernel
theorem dX0_edgeOfRow_109 : decode cX0_edgeOfRow 109 = .ok (.iload_n 3, 1) := by decide +kernel
theorem dX0_edgeOfRow_110 : decode cX0_edgeOfRow 110 = .ok (.goto 5, 3) := by decide +kernel
theorem dX0_edgeOfRow_113 : decode cX0_edgeOfRow 113 = .ok (.iload 7, 2) := by decide +kernel
theorem dX0_edgeOfRow_115 : decode cX0_edgeOfRow 115 = .ok (.ireturn, 1) := by decide +kernel
theorem dX0_edgeOfRow_116 : decode cX0_edgeOfRow 116 = .ok (.iinc 4 1, 3) := by decide +kernel
theorem dX0_edgeOfRow_119 : decode cX0_edgeOfRow 119 = .ok (.iload 8, 2) := by decide +kernel
theorem dX0_edgeOfRow_121 : decode cX0_edgeOfRow 121 = .ok (.ifCond .eq 22, 3) := by decide +kernel
theorem dX0_edgeOfRow_124 : decode cX0_edgeOfRow 124 = .ok (.iload 6, 2) := by decide +kernel
theorem dX0_edgeOfRow_126 : decode cX0_edgeOfRow 126 = .ok (.ifCond .ne 17, 3) := by decide +kernel
theorem dX0_edgeOfRow_129 : decode cX0_edgeOfRow 129 = .ok (.iload_n 3, 1) := by decide +kernel
theorem dX0_edgeOfRow_130 : decode cX0_edgeOfRow 130 = .ok (.aload_n 0, 1) := by decide +kernel
theorem dX0_edgeOfRow_131 : decode cX0_edgeOfRow 131 = .ok (.getfield 34, 3) := by decide +kernel
theorem dX0_edgeOfRow_134 : decode cX0_edgeOfRow 134 = .ok (.iload 5, 2) := by decide +kernel
theorem dX0_edgeOfRow_136 : decode cX0_edgeOfRow 136 = .ok (.iaload, 1) := by decide +kernel
theorem dX0_edgeOfRow_137 : decode cX0_edgeOfRow 137 = .ok (.iconst 1, 1) := by decide +kernel
theorem dX0_edgeOfRow_138 : decode cX0_edgeOfRow 138 = .ok (.iadd, 1) := by decide +kernel
theorem dX0_edgeOfRow_139 : decode cX0_edgeOfRow 139 = .ok (.invokestatic 127, 3) := by decide +kernel
theorem dX0_edgeOfRow_142 : decode cX0_edgeOfRow 142 = .ok (.istore_n 3, 1) := by decide +kernel
theorem dX0_edgeOfRow_143 : decode cX0_edgeOfRow 143 = .ok (.iinc 5 1, 3) := by decide +kernel
theorem dX0_edgeOfRow_146 : decode cX0_edgeOfRow 146 = .ok (.goto (-135), 3) := by decide +kernel
theorem dX0_edgeOfRow_149 : decode cX0_edgeOfRow 149 = .ok (.ldc 123, 2) := by decide +kernel
theorem dX0_edgeOfRow_151 : decode cX0_edgeOfRow 151 = .ok (.ireturn, 1) := by decide +kernel
theorem dX1_init_0 : decode cX1_init 0 = .ok (.aload_n 0, 1) := by decide +kernel
theorem dX1_init_1 : decode cX1_init 1 = .ok (.invokespecial 3, 3) := by decide +kernel
theorem dX1_init_4 : decode cX1_init 4 = .ok (.aload_n 0, 1) := by decide +kernel
theorem dX1_init_5 : decode cX1_init 5 = .ok (.bipush 12, 2) := by decide +kernel
theorem dX1_init_7 : decode cX1_init 7 = .ok (.anewarray 9, 3) := by decide +kernel
theorem dX1_init_10 : decode cX1_init 10 = .ok (.putfield 11, 3) := by decide +kernel
theorem dX1_init_13 : decode cX1_init 13 = .ok (.iconst 0, 1) := by decide +kernel
theorem dX1_init_14 : decode cX1_init 14 = .ok (.istore_n 1, 1) := by decide +kernel
theorem dX1_init_15 : decode cX1_init 15 = .ok (.iload_n 1, 1) := by decide +kernel
theorem dX1_init_16 : decode cX1_init 16 = .ok (.bipush 12, 2) := by decide +kernel
theorem dX1_init_18 : decode cX1_init 18 = .ok (.if_icmp .ge 22, 3) := by decide +kernel
theorem dX1_init_21 : decode cX1_init 21 = .ok (.aload_n 0, 1) := by decide +kernel
theorem dX1_init_22 : decode cX1_init 22 = .ok (.getfield 11, 3) := by decide +kernel
theorem dX1_init_25 : decode cX1_init 25 = .ok (.iload_n 1, 1) := by decide +kernel
theorem dX1_init_26 : decode cX1_init 26 = .ok (.new 9, 3) := by decide +kernel
theorem dX1_init_29 : decode cX1_init 29 = .ok (.dup, 1) := by decide +kernel
theorem dX1_init_30 : decode cX1_init 30 = .ok (.invokespecial 17, 3) := by decide +kernel
theorem dX1_init_33 : decode cX1_init 33 = .ok (.aastore, 1) := by decide +kernel
theorem dX1_init_34 : decode cX1_init 34 = .ok (.iinc 1 1, 3) := by decide +kernel
theorem dX1_init_37 : decode cX1_init 37 = .ok (.goto (-22), 3) := by decide +kernel
theorem dX1_init_40 : decode cX1_init 40 = .ok (.return_, 1) := by decide +kernel
theorem dX1_forgetAll_0 : decode cX1_forgetAll 0 = .ok (.aload_n 0, 1) := by decide +kernel
theorem dX1_forgetAll_1 : decode cX1_forgetAll 1 = .ok (.iconst 0, 1) := by decide +kernel
theorem dX1_forgetAll_2 : decode cX1_forgetAll 2 = .ok (.putfield 18, 3) := by decide +kernel
theorem dX1_forgetAll_5 : decode cX1_forgetAll 5 = .ok (.return_, 1) := by decide +kernel
theorem dX1_keep_0 : decode cX1_keep 0 = .ok (.aload_n 0, 1) := by decide +kernel
theorem dX1_keep_1 : decode cX1_keep 1 = .ok (.getfield 18, 3) := by decide +kernel
theorem dX1_keep_4 : decode cX1_keep 4 = .ok (.bipush 12, 2) := by decide +kernel
theorem dX1_keep_6 : decode cX1_keep 6 = .ok (.if_icmp .ne 26, 3) := by decide +kernel
theorem dX1_keep_9 : decode cX1_keep 9 = .ok (.aload_n 0, 1) := by decide +kernel
theorem dX1_keep_10 : decode cX1_keep 10 = .ok (.aload_n 0, 1) := by decide +kernel
theorem dX1_keep_11 : decode cX1_keep 11 = .ok (.getfield 22, 3) := by decide +kernel
theorem dX1_keep_14 : decode cX1_keep 14 = .ok (.iconst 1, 1) := by decide +kernel
theorem dX1_keep_15 : decode cX1_keep 15 = .ok (.iadd, 1) := by decide +kernel
theorem dX1_keep_16 : decode cX1_keep 16 = .ok (.bipush 12, 2) := by decide +kernel
theorem dX1_keep_18 : decode cX1_keep 18 = .ok (.irem, 1) := by decide +kernel
theorem dX1_keep_19 : decode cX1_keep 19 = .ok (.putfield 22, 3) := by decide +kernel
theorem dX1_keep_22 : decode cX1_keep 22 = .ok (.aload_n 0, 1) := by decide +kernel
theorem dX1_keep_23 : decode cX1_keep 23 = .ok (.dup, 1) := by decide +kernel
theorem dX1_keep_24 : decode cX1_keep 24 = .ok (.getfield 18, 3) := by decide +kernel
theorem dX1_keep_27 : decode cX1_keep 27 = .ok (.iconst 1, 1) := by decide +kernel
theorem dX1_keep_28 : decode cX1_keep 28 = .ok (.isub, 1) := by decide +kernel
theorem dX1_keep_29 : decode cX1_keep 29 = .ok (.putfield 18, 3) := by decide +kernel
theorem dX1_keep_32 : decode cX1_keep 32 = .ok (.aload_n 0, 1) := by decide +kernel
theorem dX1_keep_33 : decode cX1_keep 33 = .ok (.getfield 11, 3) := by decide +kernel
theorem dX1_keep_36 : decode cX1_keep 36 = .ok (.aload_n 0, 1) := by decide +kernel
theorem dX1_keep_37 : decode cX1_keep 37 = .ok (.getfield 22, 3) := by decide +kernel
theorem dX1_keep_40 : decode cX1_keep 40 = .ok (.aload_n 0, 1) := by decide +kernel
theorem dX1_keep_41 : decode cX1_keep 41 = .ok (.getfield 18, 3) := by decide +kernel
theorem dX1_keep_44 : decode cX1_keep 44 = .ok (.iadd, 1) := by decide +kernel
theorem dX1_keep_45 : decode cX1_keep 45 = .ok (.bipush 12, 2) := by decide +kernel
theorem dX1_keep_47 : decode cX1_keep 47 = .ok (.irem, 1) := by decide +kernel
theorem dX1_keep_48 : decode cX1_keep 48 = .ok (.aaload, 1) := by decide +kernel
theorem dX1_keep_49 : decode cX1_keep 49 = .ok (.aload_n 1, 1) := by decide +kernel
theorem dX1_keep_50 : decode cX1_keep 50 = .ok (.invokevirtual 25, 3) := by decide +kernel
theorem dX1_keep_53 : decode cX1_keep 53 = .ok (.aload_n 0, 1) := by decide +kernel
theorem dX1_keep_54 : decode cX1_keep 54 = .ok (.dup, 1) := by decide +kernel
theorem dX1_keep_55 : decode cX1_keep 55 = .ok (.getfield 18, 3) := by decide +kernel
theorem dX1_keep_58 : decode cX1_keep 58 = .ok (.iconst 1, 1) := by decide +kernel
theorem dX1_keep_59 : decode cX1_keep 59 = .ok (.iadd, 1) := by decide +kernel
theorem dX1_keep_60 : decode cX1_keep 60 = .ok (.putfield 18, 3) := by decide +kernel
theorem dX1_keep_63 : decode cX1_keep 63 = .ok (.return_, 1) := by decide +kernel
theorem dX1_takeBack_0 : decode cX1_takeBack 0 = .ok (.aload_n 0, 1) := by decide +kernel
theorem dX1_takeBack_1 : decode cX1_takeBack 1 = .ok (.dup, 1) := by decide +kernel
theorem dX1_takeBack_2 : decode cX1_takeBack 2 = .ok (.getfield 18, 3) := by decide +kernel
theorem dX1_takeBack_5 : decode cX1_takeBack 5 = .ok (.iconst 1, 1) := by decide +kernel
theorem dX1_takeBack_6 : decode cX1_takeBack 6 = .ok (.isub, 1) := by decide +kernel
theorem dX1_takeBack_7 : decode cX1_takeBack 7 = .ok (.putfield 18, 3) := by decide +kernel
theorem dX1_takeBack_10 : decode cX1_takeBack 10 = .ok (.aload_n 1, 1) := by decide +kernel
theorem dX1_takeBack_11 : decode cX1_takeBack 11 = .ok (.aload_n 0, 1) := by decide +kernel
theorem dX1_takeBack_12 : decode cX1_takeBack 12 = .ok (.getfield 11, 3) := by decide +kernel
theorem dX1_takeBack_15 : decode cX1_takeBack 15 = .ok (.aload_n 0, 1) := by decide +kernel
theorem dX1_takeBack_16 : decode cX1_takeBack 16 = .ok (.getfield 22, 3) := by decide +kernel
theorem dX1_takeBack_19 : decode cX1_takeBack 19 = .ok (.aload_n 0, 1) := by decide +kernel
theorem dX1_takeBack_20 : decode cX1_takeBack 20 = .ok (.getfield 18, 3) := by decide +kernel
theorem dX1_takeBack_23 : decode cX1_takeBack 23 = .ok (.iadd, 1) := by decide +kernel
theorem dX1_takeBack_24 : decode cX1_takeBack 24 = .ok (.bipush 12, 2) := by decide +kernel
theorem dX1_takeBack_26 : decode cX1_takeBack 26 = .ok (.irem, 1) := by decide +kernel
theorem dX1_takeBack_27 : decode cX1_takeBack 27 = .ok (.aaload, 1) := by decide +kernel
theorem dX1_takeBack_28 : decode cX1_takeBack 28 = .ok (.invokevirtual 25, 3) := by decide +kernel
theorem dX1_takeBack_31 : decode cX1_takeBack 31 = .ok (.return_, 1) := by decide +kernel
theorem dX2_init_0 : decode cX2_init 0 = .ok (.aload_n 0, 1) := by decide +kernel
theorem dX2_init_1 : decode cX2_init 1 = .ok (.invokespecial 3, 3) := by decide +kernel
theorem dX2_init_4 : decode cX2_init 4 = .ok (.aload_n 0, 1) := by decide +kernel
theorem dX2_init_5 : decode cX2_init 5 = .ok (.new 9, 3) := by decide +kernel
theorem dX2_init_8 : decode cX2_init 8 = .ok (.dup, 1) := by decide +kernel
theorem dX2_init_9 : decode cX2_init 9 = .ok (.invokespecial 11, 3) := by decide +kernel
theorem dX2_init_12 : decode cX2_init 12 = .ok (.putfield 12, 3) := by decide +kernel
theorem dX2_init_15 : decode cX2_init 15 = .ok (.return_, 1) := by decide +kernel
theorem dX2_readsInto_0 : decode cX2_readsInto 0 = .ok (.aload_n 1, 1) := by decide +kernel
theorem dX2_readsInto_1 : decode cX2_readsInto 1 = .ok (.invokevirtual 18, 3) := by decide +kernel
theorem dX2_readsInto_4 : decode cX2_readsInto 4 = .ok (.aload_n 0, 1) := by decide +kernel
theorem dX2_readsInto_5 : decode cX2_readsInto 5 = .ok (.getfield 12, 3) := by decide +kernel
theorem dX2_readsInto_8 : decode cX2_readsInto 8 = .ok (.invokevirtual 23, 3) := by decide +kernel
theorem dX2_readsInto_11 : decode cX2_readsInto 11 = .ok (.aload_n 0, 1) := by decide +kernel
theorem dX2_readsInto_12 : decode cX2_readsInto 12 = .ok (.aload_n 1, 1) := by decide +kernel
theorem dX2_readsInto_13 : decode cX2_readsInto 13 = .ok (.invokevirtual 26, 3) := by decide +kernel
theorem dX2_readsInto_16 : decode cX2_readsInto 16 = .ok (.ifCond .eq 19, 3) := by decide +kernel
theorem dX2_readsInto_19 : decode cX2_readsInto 19 = .ok (.aload_n 0, 1) := by decide +kernel
theorem dX2_readsInto_20 : decode cX2_readsInto 20 = .ok (.aload_n 1, 1) := by decide +kernel
theorem dX2_readsInto_21 : decode cX2_readsInto 21 = .ok (.invokevirtual 30, 3) := by decide +kernel
theorem dX2_readsInto_24 : decode cX2_readsInto 24 = .ok (.ifCond .eq 11, 3) := by decide +kernel
theorem dX2_readsInto_27 : decode cX2_readsInto 27 = .ok (.aload_n 0, 1) := by decide +kernel
theorem dX2_readsInto_28 : decode cX2_readsInto 28 = .ok (.aload_n 1, 1) := by decide +kernel
theorem dX2_readsInto_29 : decode cX2_readsInto 29 = .ok (.invokevirtual 33, 3) := by decide +kernel
theorem dX2_readsInto_32 : decode cX2_readsInto 32 = .ok (.ifCond .ne 5, 3) := by decide +kernel
theorem dX2_readsInto_35 : decode cX2_readsInto 35 = .ok (.iconst 0, 1) := by decide +kernel
theorem dX2_readsInto_36 : decode cX2_readsInto 36 = .ok (.ireturn, 1) := by decide +kernel
theorem dX2_readsInto_37 : decode cX2_readsInto 37 = .ok (.aload_n 0, 1) := by decide +kernel
theorem dX2_readsInto_38 : decode cX2_readsInto 38 = .ok (.getfield 12, 3) := by decide +kernel
theorem dX2_readsInto_41 : decode cX2_readsInto 41 = .ok (.getfield 36, 3) := by decide +kernel
theorem dX2_readsInto_44 : decode cX2_readsInto 44 = .ok (.iconst 3, 1) := by decide +kernel
theorem dX2_readsInto_45 : decode cX2_readsInto 45 = .ok (.if_icmp .eq 11, 3) := by decide +kernel
theorem dX2_readsInto_48 : decode cX2_readsInto 48 = .ok (.aload_n 0, 1) := by decide +kernel
theorem dX2_readsInto_49 : decode cX2_readsInto 49 = .ok (.iconst 1, 1) := by decide +kernel
theorem dX2_readsInto_50 : decode cX2_readsInto 50 = .ok (.invokevirtual 40, 3) := by decide +kernel
theorem dX2_readsInto_53 : decode cX2_readsInto 53 = .ok (.ifCond .eq 7, 3) := by decide +kernel
theorem dX2_readsInto_56 : decode cX2_readsInto 56 = .ok (.iconst 1, 1) := by decide +kernel
theorem dX2_readsInto_57 : decode cX2_readsInto 57 = .ok (.goto 4, 3) := by decide +kernel
theorem dX2_readsInto_60 : decode cX2_readsInto 60 = .ok (.iconst 0, 1) := by decide +kernel
theorem dX2_readsInto_61 : decode cX2_readsInto 61 = .ok (.ireturn, 1) := by decide +kernel
theorem dX2_fails_0 : decode cX2_fails 0 = .ok (.aload_n 0, 1) := by decide +kernel
theorem dX2_fails_1 : decode cX2_fails 1 = .ok (.iload_n 1, 1) := by decide +kernel
theorem dX2_fails_2 : decode cX2_fails 2 = .ok (.putfield 44, 3) := by decide +kernel
theorem dX2_fails_5 : decode cX2_fails 5 = .ok (.aload_n 0, 1) := by decide +kernel
theorem dX2_fails_6 : decode cX2_fails 6 = .ok (.aload_n 0, 1) := by decide +kernel
theorem dX2_fails_7 : decode cX2_fails 7 = .ok (.getfield 12, 3) := by decide +kernel
theorem dX2_fails_10 : decode cX2_fails 10 = .ok (.getfield 47, 3) := by decide +kernel
theorem dX2_fails_13 : decode cX2_fails 13 = .ok (.putfield 50, 3) := by decide +kernel
theorem dX2_fails_16 : decode cX2_fails 16 = .ok (.iconst 0, 1) := by decide +kernel
theorem dX2_fails_17 : decode cX2_fails 17 = .ok (.ireturn, 1) := by decide +kernel
theorem dX2_readsLands_0 : decode cX2_readsLands 0 = .ok (.aload_n 0, 1) := by decide +kernel
theorem dX2_readsLands_1 : decode cX2_readsLands 1 = .ok (.getfield 12, 3) := by decide +kernel
theorem dX2_readsLands_4 : decode cX2_readsLands 4 = .ok (.bipush 108, 2) := by decide +kernel
theorem dX2_readsLands_6 : decode cX2_readsLands 6 = .ok (.invokevirtual 53, 3) := by decide +kernel
theorem dX2_readsLands_9 : decode cX2_readsLands 9 = .ok (.ifCond .ne 9, 3) := by decide +kernel
theorem dX2_readsLands_12 : decode cX2_readsLands 12 = .ok (.aload_n 0, 1) := by decide +kernel
theorem dX2_readsLands_13 : decode cX2_readsLands 13 = .ok (.iconst 1, 1) := by decide +kernel
theorem dX2_readsLands_14 : decode cX2_readsLands 14 = .ok (.invokevirtual 40, 3) := by decide +kernel
theorem dX2_readsLands_17 : decode cX2_readsLands 17 = .ok (.ireturn, 1) := by decide +kernel
theorem dX2_readsLands_18 : decode cX2_readsLands 18 = .ok (.iconst 0, 1) := by decide +kernel
theorem dX2_readsLands_19 : decode cX2_readsLands 19 = .ok (.istore_n 2, 1) := by decide +kernel
theorem dX2_readsLands_20 : decode cX2_readsLands 20 = .ok (.iload_n 2, 1) := by decide +kernel
theorem dX2_readsLands_21 : decode cX2_readsLands 21 = .ok (.iconst 4, 1) := by decide +kernel
theorem dX2_readsLands_22 : decode cX2_readsLands 22 = .ok (.if_icmp .gt 78, 3) := by decide +kernel
theorem dX2_readsLands_25 : decode cX2_readsLands 25 = .ok (.aload_n 0, 1) := by decide +kernel
theorem dX2_readsLands_26 : decode cX2_readsLands 26 = .ok (.getfield 12, 3) := by decide +kernel
theorem dX2_readsLands_29 : decode cX2_readsLands 29 = .ok (.bipush 108, 2) := by decide +kernel
theorem dX2_readsLands_31 : decode cX2_readsLands 31 = .ok (.invokevirtual 53, 3) := by decide +kernel
theorem dX2_readsLands_34 : decode cX2_readsLands 34 = .ok (.ifCond .eq 66, 3) := by decide +kernel
theorem dX2_readsLands_37 : decode cX2_readsLands 37 = .ok (.aload_n 1, 1) := by decide +kernel
theorem dX2_readsLands_38 : decode cX2_readsLands 38 = .ok (.getfield 56, 3) := by decide +kernel
theorem dX2_readsLands_41 : decode cX2_readsLands 41 = .ok (.iconst 4, 1) := by decide +kernel
theorem dX2_readsLands_42 : decode cX2_readsLands 42 = .ok (.if_icmp .lt 9, 3) := by decide +kernel
theorem dX2_readsLands_45 : decode cX2_readsLands 45 = .ok (.aload_n 0, 1) := by decide +kernel
theorem dX2_readsLands_46 : decode cX2_readsLands 46 = .ok (.iconst 3, 1) := by decide +kernel
theorem dX2_readsLands_47 : decode cX2_readsLands 47 = .ok (.invokevirtual 40, 3) := by decide +kernel
theorem dX2_readsLands_50 : decode cX2_readsLands 50 = .ok (.ireturn, 1) := by decide +kernel
theorem dX2_readsLands_51 : decode cX2_readsLands 51 = .ok (.aload_n 1, 1) := by decide +kernel
theorem dX2_readsLands_52 : decode cX2_readsLands 52 = .ok (.getfield 59, 3) := by decide +kernel
theorem dX2_readsLands_55 : decode cX2_readsLands 55 = .ok (.aload_n 1, 1) := by decide +kernel
theorem dX2_readsLands_56 : decode cX2_readsLands 56 = .ok (.getfield 56, 3) := by decide +kernel
theorem dX2_readsLands_59 : decode cX2_readsLands 59 = .ok (.iconst 0, 1) := by decide +kernel
theorem dX2_readsLands_60 : decode cX2_readsLands 60 = .ok (.iastore, 1) := by decide +kernel
theorem dX2_readsLands_61 : decode cX2_readsLands 61 = .ok (.aload_n 1, 1) := by decide +kernel
theorem dX2_readsLands_62 : decode cX2_readsLands 62 = .ok (.dup, 1) := by decide +kernel
theorem dX2_readsLands_63 : decode cX2_readsLands 63 = .ok (.getfield 56, 3) := by decide +kernel
theorem dX2_readsLands_66 : decode cX2_readsLands 66 = .ok (.iconst 1, 1) := by decide +kernel
theorem dX2_readsLands_67 : decode cX2_readsLands 67 = .ok (.iadd, 1) := by decide +kernel
theorem dX2_readsLands_68 : decode cX2_readsLands 68 = .ok (.putfield 56, 3) := by decide +kernel
theorem dX2_readsLands_71 : decode cX2_readsLands 71 = .ok (.aload_n 0, 1) := by decide +kernel
theorem dX2_readsLands_72 : decode cX2_readsLands 72 = .ok (.getfield 12, 3) := by decide +kernel
theorem dX2_readsLands_75 : decode cX2_readsLands 75 = .ok (.invokevirtual 63, 3) := by decide +kernel
theorem dX2_readsLands_78 : decode cX2_readsLands 78 = .ok (.aload_n 0, 1) := by decide +kernel
theorem dX2_readsLands_79 : decode cX2_readsLands 79 = .ok (.aload_n 1, 1) := by decide +kernel
theorem dX2_readsLands_80 : decode cX2_readsLands 80 = .ok (.aload_n 1, 1) := by decide +kernel
theorem dX2_readsLands_81 : decode cX2_readsLands 81 = .ok (.getfield 56, 3) := by decide +kernel
theorem dX2_readsLands_84 : decode cX2_readsLands 84 = .ok (.iconst 1, 1) := by decide +kernel
theorem dX2_readsLands_85 : decode cX2_readsLands 85 = .ok (.isub, 1) := by decide +kernel
theorem dX2_readsLands_86 : decode cX2_readsLands 86 = .ok (.invokevirtual 66, 3) := by decide +kernel
theorem dX2_readsLands_89 : decode cX2_readsLands 89 = .ok (.ifCond .ne 5, 3) := by decide +kernel
theorem dX2_readsLands_92 : decode cX2_readsLands 92 = .ok (.iconst 0, 1) := by decide +kernel
theorem dX2_readsLands_93 : decode cX2_readsLands 93 = .ok (.ireturn, 1) := by decide +kernel
theorem dX2_readsLands_94 : decode cX2_readsLands 94 = .ok (.iinc 2 1, 3) := by decide +kernel
theorem dX2_readsLands_97 : decode cX2_readsLands 97 = .ok (.goto (-77), 3) := by decide +kernel
theorem dX2_readsLands_100 : decode cX2_readsLands 100 = .ok (.iconst 1, 1) := by decide +kernel
theorem dX2_readsLands_101 : decode cX2_readsLands 101 = .ok (.ireturn, 1) := by decide +kernel
theorem dX2_readsActs_0 : decode cX2_readsActs 0 = .ok (.aload_n 0, 1) := by decide +kernel
theorem dX2_readsActs_1 : decode cX2_readsActs 1 = .ok (.getfield 12, 3) := by decide +kernel
theorem dX2_readsActs_4 : decode cX2_readsActs 4 = .ok (.bipush 121, 2) := by decide +kernel
theorem dX2_readsActs_6 : decode cX2_readsActs 6 = .ok (.invokevirtual 53, 3) := by decide +kernel
theorem dX2_readsActs_9 : decode cX2_readsActs 9 = .ok (.ifCond .ne 9, 3) := by decide +kernel
theorem dX2_readsActs_12 : decode cX2_readsActs 12 = .ok (.aload_n 0, 1) := by decide +kernel
theorem dX2_readsActs_13 : decode cX2_readsActs 13 = .ok (.iconst 1, 1) := by decide +kernel
theorem dX2_readsActs_14 : decode cX2_readsActs 14 = .ok (.invokevirtual 40, 3) := by decide +kernel
theorem dX2_readsActs_17 : decode cX2_readsActs 17 = .ok (.ireturn, 1) := by decide +kernel
theorem dX2_readsActs_18 : decode cX2_readsActs 18 = .ok (.iconst 0, 1) := by decide +kernel
theorem dX2_readsActs_19 : decode cX2_readsActs 19 = .ok (.istore_n 3, 1) := by decide +kernel
theorem dX2_readsActs_20 : decode cX2_readsActs 20 = .ok (.iload_n 3, 1) := by decide +kernel
theorem dX2_readsActs_21 : decode cX2_readsActs 21 = .ok (.iconst 4, 1) := by decide +kernel
theorem dX2_readsActs_22 : decode cX2_readsActs 22 = .ok (.if_icmp .gt 71, 3) := by decide +kernel
theorem dX2_readsActs_25 : decode cX2_readsActs 25 = .ok (.aload_n 0, 1) := by decide +kernel
theorem dX2_readsActs_26 : decode cX2_readsActs 26 = .ok (.getfield 12, 3) := by decide +kernel
theorem dX2_readsActs_29 : decode cX2_readsActs 29 = .ok (.bipush 121, 2) := by decide +kernel
theorem dX2_readsActs_31 : decode cX2_readsActs 31 = .ok (.invokevirtual 53, 3) := by decide +kernel
theorem dX2_readsActs_34 : decode cX2_readsActs 34 = .ok (.ifCond .eq 59, 3) := by decide +kernel
theorem dX2_readsActs_37 : decode cX2_readsActs 37 = .ok (.aload_n 1, 1) := by decide +kernel
theorem dX2_readsActs_38 : decode cX2_readsActs 38 = .ok (.getfield 59, 3) := by decide +kernel
theorem dX2_readsActs_41 : decode cX2_readsActs 41 = .ok (.iload_n 2, 1) := by decide +kernel
theorem dX2_readsActs_42 : decode cX2_readsActs 42 = .ok (.iaload, 1) := by decide +kernel
theorem dX2_readsActs_43 : decode cX2_readsActs 43 = .ok (.iconst 4, 1) := by decide +kernel
theorem dX2_readsActs_44 : decode cX2_readsActs 44 = .ok (.if_icmp .lt 9, 3) := by decide +kernel
theorem dX2_readsActs_47 : decode cX2_readsActs 47 = .ok (.aload_n 0, 1) := by decide +kernel
theorem dX2_readsActs_48 : decode cX2_readsActs 48 = .ok (.iconst 3, 1) := by decide +kernel
theorem dX2_readsActs_49 : decode cX2_readsActs 49 = .ok (.invokevirtual 40, 3) := by decide +kernel
theorem dX2_readsActs_52 : decode cX2_readsActs 52 = .ok (.ireturn, 1) := by decide +kernel
theorem dX2_readsActs_53 : decode cX2_readsActs 53 = .ok (.aload_n 0, 1) := by decide +kernel
theorem dX2_readsActs_54 : decode cX2_readsActs 54 = .ok (.getfield 12, 3) := by decide +kernel
theorem dX2_readsActs_57 : decode cX2_readsActs 57 = .ok (.invokevirtual 63, 3) := by decide +kernel
theorem dX2_readsActs_60 : decode cX2_readsActs 60 = .ok (.aload_n 0, 1) := by decide +kernel
theorem dX2_readsActs_61 : decode cX2_readsActs 61 = .ok (.aload_n 1, 1) := by decide +kernel
theorem dX2_readsActs_62 : decode cX2_readsActs 62 = .ok (.iload_n 2, 1) := by decide +kernel
theorem dX2_readsActs_63 : decode cX2_readsActs 63 = .ok (.aload_n 1, 1) := by decide +kernel
theorem dX2_readsActs_64 : decode cX2_readsActs 64 = .ok (.getfield 59, 3) := by decide +kernel
theorem dX2_readsActs_67 : decode cX2_readsActs 67 = .ok (.iload_n 2, 1) := by decide +kernel
theorem dX2_readsActs_68 : decode cX2_readsActs 68 = .ok (.iaload, 1) := by decide +kernel
theorem dX2_readsActs_69 : decode cX2_readsActs 69 = .ok (.invokevirtual 70, 3) := by decide +kernel
theorem dX2_readsActs_72 : decode cX2_readsActs 72 = .ok (.ifCond .ne 5, 3) := by decide +kernel
theorem dX2_readsActs_75 : decode cX2_readsActs 75 = .ok (.iconst 0, 1) := by decide +kernel
theorem dX2_readsActs_76 : decode cX2_readsActs 76 = .ok (.ireturn, 1) := by decide +kernel
theorem dX2_readsActs_77 : decode cX2_readsActs 77 = .ok (.aload_n 1, 1) := by decide +kernel
theorem dX2_readsActs_78 : decode cX2_readsActs 78 = .ok (.getfield 59, 3) := by decide +kernel
theorem dX2_readsActs_81 : decode cX2_readsActs 81 = .ok (.iload_n 2, 1) := by decide +kernel
theorem dX2_readsActs_82 : decode cX2_readsActs 82 = .ok (.dup2, 1) := by decide +kernel
theorem dX2_readsActs_83 : decode cX2_readsActs 83 = .ok (.iaload, 1) := by decide +kernel
theorem dX2_readsActs_84 : decode cX2_readsActs 84 = .ok (.iconst 1, 1) := by decide +kernel
theorem dX2_readsActs_85 : decode cX2_readsActs 85 = .ok (.iadd, 1) := by decide +kernel
theorem dX2_readsActs_86 : decode cX2_readsActs 86 = .ok (.iastore, 1) := by decide +kernel
theorem dX2_readsActs_87 : decode cX2_readsActs 87 = .ok (.iinc 3 1, 3) := by decide +kernel
theorem dX2_readsActs_90 : decode cX2_readsActs 90 = .ok (.goto (-70), 3) := by decide +kernel
theorem dX2_readsActs_93 : decode cX2_readsActs 93 = .ok (.iconst 1, 1) := by decide +kernel
theorem dX2_readsActs_94 : decode cX2_readsActs 94 = .ok (.ireturn, 1) := by decide +kernel
theorem dX2_readsAct_0 : decode cX2_readsAct 0 = .ok (.iconst 0, 1) := by decide +kernel
theorem dX2_readsAct_1 : decode cX2_readsAct 1 = .ok (.istore 4, 2) := by decide +kernel
theorem dX2_readsAct_3 : decode cX2_readsAct 3 = .ok (.iload 4, 2) := by decide +kernel
theorem dX2_readsAct_5 : decode cX2_readsAct 5 = .ok (.iconst 5, 1) := by decide +kernel
theorem dX2_readsAct_6 : decode cX2_readsAct 6 = .ok (.if_icmp .gt 75, 3) := by decide +kernel
theorem dX2_readsAct_9 : decode cX2_readsAct 9 = .ok (.aload_n 0, 1) := by decide +kernel
theorem dX2_readsAct_10 : decode cX2_readsAct 10 = .ok (.getfield 12, 3) := by decide +kernel
theorem dX2_readsAct_13 : decode cX2_readsAct 13 = .ok (.getfield 74, 3) := by decide +kernel
theorem dX2_readsAct_16 : decode cX2_readsAct 16 = .ok (.istore 5, 2) := by decide +kernel
theorem dX2_readsAct_18 : decode cX2_readsAct 18 = .ok (.aload_n 0, 1) := by decide +kernel
theorem dX2_readsAct_19 : decode cX2_readsAct 19 = .ok (.aload_n 1, 1) := by decide +kernel
theorem dX2_readsAct_20 : decode cX2_readsAct 20 = .ok (.iload_n 2, 1) := by decide +kernel
theorem dX2_readsAct_21 : decode cX2_readsAct 21 = .ok (.iload_n 3, 1) := by decide +kernel
theorem dX2_readsAct_22 : decode cX2_readsAct 22 = .ok (.iload 4, 2) := by decide +kernel
theorem dX2_readsAct_24 : decode cX2_readsAct 24 = .ok (.iload 5, 2) := by decide +kernel
theorem dX2_readsAct_26 : decode cX2_readsAct 26 = .ok (.invokevirtual 77, 3) := by decide +kernel
theorem dX2_readsAct_29 : decode cX2_readsAct 29 = .ok (.invokevirtual 81, 3) := by decide +kernel
theorem dX2_readsAct_32 : decode cX2_readsAct 32 = .ok (.ifCond .ne 5, 3) := by decide +kernel
theorem dX2_readsAct_35 : decode cX2_readsAct 35 = .ok (.iconst 0, 1) := by decide +kernel
theorem dX2_readsAct_36 : decode cX2_readsAct 36 = .ok (.ireturn, 1) := by decide +kernel
theorem dX2_readsAct_37 : decode cX2_readsAct 37 = .ok (.aload_n 1, 1) := by decide +kernel
theorem dX2_readsAct_38 : decode cX2_readsAct 38 = .ok (.getfield 85, 3) := by decide +kernel
theorem dX2_readsAct_41 : decode cX2_readsAct 41 = .ok (.aload_n 1, 1) := by decide +kernel
theorem dX2_readsAct_42 : decode cX2_readsAct 42 = .ok (.iload_n 2, 1) := by decide +kernel
theorem dX2_readsAct_43 : decode cX2_readsAct 43 = .ok (.iload_n 3, 1) := by decide +kernel
theorem dX2_readsAct_44 : decode cX2_readsAct 44 = .ok (.invokevirtual 88, 3) := by decide +kernel
theorem dX2_readsAct_47 : decode cX2_readsAct 47 = .ok (.iload 4, 2) := by decide +kernel
theorem dX2_readsAct_49 : decode cX2_readsAct 49 = .ok (.iadd, 1) := by decide +kernel
theorem dX2_readsAct_50 : decode cX2_readsAct 50 = .ok (.iload 5, 2) := by decide +kernel
theorem dX2_readsAct_52 : decode cX2_readsAct 52 = .ok (.iastore, 1) := by decide +kernel
theorem dX2_readsAct_53 : decode cX2_readsAct 53 = .ok (.aload_n 0, 1) := by decide +kernel
theorem dX2_readsAct_54 : decode cX2_readsAct 54 = .ok (.iload 4, 2) := by decide +kernel
theorem dX2_readsAct_56 : decode cX2_readsAct 56 = .ok (.iconst 5, 1) := by decide +kernel
theorem dX2_readsAct_57 : decode cX2_readsAct 57 = .ok (.if_icmp .ge 8, 3) := by decide +kernel
theorem dX2_readsAct_60 : decode cX2_readsAct 60 = .ok (.bipush 44, 2) := by decide +kernel
theorem dX2_readsAct_62 : decode cX2_readsAct 62 = .ok (.goto 5, 3) := by decide +kernel
theorem dX2_readsAct_65 : decode cX2_readsAct 65 = .ok (.bipush 59, 2) := by decide +kernel
theorem dX2_readsAct_67 : decode cX2_readsAct 67 = .ok (.invokevirtual 92, 3) := by decide +kernel
theorem dX2_readsAct_70 : decode cX2_readsAct 70 = .ok (.ifCond .ne 5, 3) := by decide +kernel
theorem dX2_readsAct_73 : decode cX2_readsAct 73 = .ok (.iconst 0, 1) := by decide +kernel
theorem dX2_readsAct_74 : decode cX2_readsAct 74 = .ok (.ireturn, 1) := by decide +kernel
theorem dX2_readsAct_75 : decode cX2_readsAct 75 = .ok (.iinc 4 1, 3) := by decide +kernel
theorem dX2_readsAct_78 : decode cX2_readsAct 78 = .ok (.goto (-75), 3) := by decide +kernel
theorem dX2_readsAct_81 : decode cX2_readsAct 81 = .ok (.iconst 1, 1) := by decide +kernel
theorem dX2_readsAct_82 : decode cX2_readsAct 82 = .ok (.ireturn, 1) := by decide +kernel
theorem dX2_readsAuthors_0 : decode cX2_readsAuthors 0 = .ok (.iconst 0, 1) := by decide +kernel
theorem dX2_readsAuthors_1 : decode cX2_readsAuthors 1 = .ok (.istore_n 2, 1) := by decide +kernel
theorem dX2_readsAuthors_2 : decode cX2_readsAuthors 2 = .ok (.iload_n 2, 1) := by decide +kernel
theorem dX2_readsAuthors_3 : decode cX2_readsAuthors 3 = .ok (.bipush 8, 2) := by decide +kernel
theorem dX2_readsAuthors_5 : decode cX2_readsAuthors 5 = .ok (.if_icmp .gt 69, 3) := by decide +kernel
theorem dX2_readsAuthors_8 : decode cX2_readsAuthors 8 = .ok (.aload_n 0, 1) := by decide +kernel
theorem dX2_readsAuthors_9 : decode cX2_readsAuthors 9 = .ok (.getfield 12, 3) := by decide +kernel
theorem dX2_readsAuthors_12 : decode cX2_readsAuthors 12 = .ok (.bipush 97, 2) := by decide +kernel
theorem dX2_readsAuthors_14 : decode cX2_readsAuthors 14 = .ok (.invokevirtual 53, 3) := by decide +kernel
theorem dX2_readsAuthors_17 : decode cX2_readsAuthors 17 = .ok (.ifCond .eq 57, 3) := by decide +kernel
theorem dX2_readsAuthors_20 : decode cX2_readsAuthors 20 = .ok (.aload_n 1, 1) := by decide +kernel
theorem dX2_readsAuthors_21 : decode cX2_readsAuthors 21 = .ok (.getfield 95, 3) := by decide +kernel
theorem dX2_readsAuthors_24 : decode cX2_readsAuthors 24 = .ok (.bipush 8, 2) := by decide +kernel
theorem dX2_readsAuthors_26 : decode cX2_readsAuthors 26 = .ok (.if_icmp .lt 9, 3) := by decide +kernel
theorem dX2_readsAuthors_29 : decode cX2_readsAuthors 29 = .ok (.aload_n 0, 1) := by decide +kernel
theorem dX2_readsAuthors_30 : decode cX2_readsAuthors 30 = .ok (.iconst 3, 1) := by decide +kernel
theorem dX2_readsAuthors_31 : decode cX2_readsAuthors 31 = .ok (.invokevirtual 40, 3) := by decide +kernel
theorem dX2_readsAuthors_34 : decode cX2_readsAuthors 34 = .ok (.ireturn, 1) := by decide +kernel
theorem dX2_readsAuthors_35 : decode cX2_readsAuthors 35 = .ok (.aload_n 0, 1) := by decide +kernel
theorem dX2_readsAuthors_36 : decode cX2_readsAuthors 36 = .ok (.getfield 12, 3) := by decide +kernel
theorem dX2_readsAuthors_39 : decode cX2_readsAuthors 39 = .ok (.invokevirtual 63, 3) := by decide +kernel
theorem dX2_readsAuthors_42 : decode cX2_readsAuthors 42 = .ok (.aload_n 0, 1) := by decide +kernel
theorem dX2_readsAuthors_43 : decode cX2_readsAuthors 43 = .ok (.aload_n 1, 1) := by decide +kernel
theorem dX2_readsAuthors_44 : decode cX2_readsAuthors 44 = .ok (.aload_n 1, 1) := by decide +kernel
theorem dX2_readsAuthors_45 : decode cX2_readsAuthors 45 = .ok (.getfield 95, 3) := by decide +kernel
theorem dX2_readsAuthors_48 : decode cX2_readsAuthors 48 = .ok (.iconst 2, 1) := by decide +kernel
theorem dX2_readsAuthors_49 : decode cX2_readsAuthors 49 = .ok (.imul, 1) := by decide +kernel
theorem dX2_readsAuthors_50 : decode cX2_readsAuthors 50 = .ok (.invokevirtual 98, 3) := by decide +kernel
theorem dX2_readsAuthors_53 : decode cX2_readsAuthors 53 = .ok (.ifCond .ne 5, 3) := by decide +kernel
theorem dX2_readsAuthors_56 : decode cX2_readsAuthors 56 = .ok (.iconst 0, 1) := by decide +kernel
theorem dX2_readsAuthors_57 : decode cX2_readsAuthors 57 = .ok (.ireturn, 1) := by decide +kernel
theorem dX2_readsAuthors_58 : decode cX2_readsAuthors 58 = .ok (.aload_n 1, 1) := by decide +kernel
theorem dX2_readsAuthors_59 : decode cX2_readsAuthors 59 = .ok (.dup, 1) := by decide +kernel
theorem dX2_readsAuthors_60 : decode cX2_readsAuthors 60 = .ok (.getfield 95, 3) := by decide +kernel
theorem dX2_readsAuthors_63 : decode cX2_readsAuthors 63 = .ok (.iconst 1, 1) := by decide +kernel
theorem dX2_readsAuthors_64 : decode cX2_readsAuthors 64 = .ok (.iadd, 1) := by decide +kernel
theorem dX2_readsAuthors_65 : decode cX2_readsAuthors 65 = .ok (.putfield 95, 3) := by decide +kernel
theorem dX2_readsAuthors_68 : decode cX2_readsAuthors 68 = .ok (.iinc 2 1, 3) := by decide +kernel
theorem dX2_readsAuthors_71 : decode cX2_readsAuthors 71 = .ok (.goto (-69), 3) := by decide +kernel
theorem dX2_readsAuthors_74 : decode cX2_readsAuthors 74 = .ok (.iconst 1, 1) := by decide +kernel
theorem dX2_readsAuthors_75 : decode cX2_readsAuthors 75 = .ok (.ireturn, 1) := by decide +kernel
theorem dX2_readsDeath_0 : decode cX2_readsDeath 0 = .ok (.aload_n 1, 1) := by decide +kernel
theorem dX2_readsDeath_1 : decode cX2_readsDeath 1 = .ok (.getfield 101, 3) := by decide +kernel
theorem dX2_readsDeath_4 : decode cX2_readsDeath 4 = .ok (.iload_n 2, 1) := by decide +kernel
theorem dX2_readsDeath_5 : decode cX2_readsDeath 5 = .ok (.iconst 0, 1) := by decide +kernel
theorem dX2_readsDeath_6 : decode cX2_readsDeath 6 = .ok (.iadd, 1) := by decide +kernel
theorem dX2_readsDeath_7 : decode cX2_readsDeath 7 = .ok (.iconst 0, 1) := by decide +kernel
theorem dX2_readsDeath_8 : decode cX2_readsDeath 8 = .ok (.iastore, 1) := by decide +kernel
theorem dX2_readsDeath_9 : decode cX2_readsDeath 9 = .ok (.aload_n 1, 1) := by decide +kernel
theorem dX2_readsDeath_10 : decode cX2_readsDeath 10 = .ok (.getfield 101, 3) := by decide +kernel
theorem dX2_readsDeath_13 : decode cX2_readsDeath 13 = .ok (.iload_n 2, 1) := by decide +kernel
theorem dX2_readsDeath_14 : decode cX2_readsDeath 14 = .ok (.iconst 1, 1) := by decide +kernel
theorem dX2_readsDeath_15 : decode cX2_readsDeath 15 = .ok (.iadd, 1) := by decide +kernel
theorem dX2_readsDeath_16 : decode cX2_readsDeath 16 = .ok (.iconst 0, 1) := by decide +kernel
theorem dX2_readsDeath_17 : decode cX2_readsDeath 17 = .ok (.iastore, 1) := by decide +kernel
theorem dX2_readsDeath_18 : decode cX2_readsDeath 18 = .ok (.aload_n 0, 1) := by decide +kernel
theorem dX2_readsDeath_19 : decode cX2_readsDeath 19 = .ok (.getfield 12, 3) := by decide +kernel
theorem dX2_readsDeath_22 : decode cX2_readsDeath 22 = .ok (.bipush 59, 2) := by decide +kernel
theorem dX2_readsDeath_24 : decode cX2_readsDeath 24 = .ok (.invokevirtual 104, 3) := by decide +kernel
theorem dX2_readsDeath_27 : decode cX2_readsDeath 27 = .ok (.ifCond .eq 12, 3) := by decide +kernel
theorem dX2_readsDeath_30 : decode cX2_readsDeath 30 = .ok (.aload_n 0, 1) := by decide +kernel
theorem dX2_readsDeath_31 : decode cX2_readsDeath 31 = .ok (.getfield 12, 3) := by decide +kernel
theorem dX2_readsDeath_34 : decode cX2_readsDeath 34 = .ok (.invokevirtual 63, 3) := by decide +kernel
theorem dX2_readsDeath_37 : decode cX2_readsDeath 37 = .ok (.iconst 1, 1) := by decide +kernel
theorem dX2_readsDeath_38 : decode cX2_readsDeath 38 = .ok (.ireturn, 1) := by decide +kernel
theorem dX2_readsDeath_39 : decode cX2_readsDeath 39 = .ok (.aload_n 0, 1) := by decide +kernel
theorem dX2_readsDeath_40 : decode cX2_readsDeath 40 = .ok (.getfield 12, 3) := by decide +kernel
theorem dX2_readsDeath_43 : decode cX2_readsDeath 43 = .ok (.getfield 74, 3) := by decide +kernel
theorem dX2_readsDeath_46 : decode cX2_readsDeath 46 = .ok (.istore_n 3, 1) := by decide +kernel
theorem dX2_readsDeath_47 : decode cX2_readsDeath 47 = .ok (.aload_n 0, 1) := by decide +kernel
theorem dX2_readsDeath_48 : decode cX2_readsDeath 48 = .ok (.iload_n 3, 1) := by decide +kernel
theorem dX2_readsDeath_49 : decode cX2_readsDeath 49 = .ok (.sipush 2099, 3) := by decide +kernel
theorem dX2_readsDeath_52 : decode cX2_readsDeath 52 = .ok (.invokestatic 107, 3) := by decide +kernel
theorem dX2_readsDeath_55 : decode cX2_readsDeath 55 = .ok (.invokevirtual 81, 3) := by decide +kernel
theorem dX2_readsDeath_58 : decode cX2_readsDeath 58 = .ok (.ifCond .eq 12, 3) := by decide +kernel
theorem dX2_readsDeath_61 : decode cX2_readsDeath 61 = .ok (.aload_n 0, 1) := by decide +kernel
theorem dX2_readsDeath_62 : decode cX2_readsDeath 62 = .ok (.bipush 44, 2) := by decide +kernel
theorem dX2_readsDeath_64 : decode cX2_readsDeath 64 = .ok (.invokevirtual 92, 3) := by decide +kernel
theorem dX2_readsDeath_67 : decode cX2_readsDeath 67 = .ok (.ifCond .ne 5, 3) := by decide +kernel
theorem dX2_readsDeath_70 : decode cX2_readsDeath 70 = .ok (.iconst 0, 1) := by decide +kernel
theorem dX2_readsDeath_71 : decode cX2_readsDeath 71 = .ok (.ireturn, 1) := by decide +kernel
theorem dX2_readsDeath_72 : decode cX2_readsDeath 72 = .ok (.aload_n 0, 1) := by decide +kernel
theorem dX2_readsDeath_73 : decode cX2_readsDeath 73 = .ok (.getfield 12, 3) := by decide +kernel
theorem dX2_readsDeath_76 : decode cX2_readsDeath 76 = .ok (.getfield 74, 3) := by decide +kernel
theorem dX2_readsDeath_79 : decode cX2_readsDeath 79 = .ok (.istore 4, 2) := by decide +kernel
theorem dX2_readsDeath_81 : decode cX2_readsDeath 81 = .ok (.aload_n 0, 1) := by decide +kernel
theorem dX2_readsDeath_82 : decode cX2_readsDeath 82 = .ok (.iload_n 3, 1) := by decide +kernel
theorem dX2_readsDeath_83 : decode cX2_readsDeath 83 = .ok (.iload 4, 2) := by decide +kernel
theorem dX2_readsDeath_85 : decode cX2_readsDeath 85 = .ok (.invokestatic 107, 3) := by decide +kernel
theorem dX2_readsDeath_88 : decode cX2_readsDeath 88 = .ok (.invokevirtual 81, 3) := by decide +kernel
theorem dX2_readsDeath_91 : decode cX2_readsDeath 91 = .ok (.ifCond .eq 12, 3) := by decide +kernel
theorem dX2_readsDeath_94 : decode cX2_readsDeath 94 = .ok (.aload_n 0, 1) := by decide +kernel
theorem dX2_readsDeath_95 : decode cX2_readsDeath 95 = .ok (.bipush 59, 2) := by decide +kernel
theorem dX2_readsDeath_97 : decode cX2_readsDeath 97 = .ok (.invokevirtual 92, 3) := by decide +kernel
theorem dX2_readsDeath_100 : decode cX2_readsDeath 100 = .ok (.ifCond .ne 5, 3) := by decide +kernel
theorem dX2_readsDeath_103 : decode cX2_readsDeath 103 = .ok (.iconst 0, 1) := by decide +kernel
theorem dX2_readsDeath_104 : decode cX2_readsDeath 104 = .ok (.ireturn, 1) := by decide +kernel
theorem dX2_readsDeath_105 : decode cX2_readsDeath 105 = .ok (.aload_n 1, 1) := by decide +kernel
theorem dX2_readsDeath_106 : decode cX2_readsDeath 106 = .ok (.getfield 101, 3) := by decide +kernel
theorem dX2_readsDeath_109 : decode cX2_readsDeath 109 = .ok (.iload_n 2, 1) := by decide +kernel
theorem dX2_readsDeath_110 : decode cX2_readsDeath 110 = .ok (.iconst 0, 1) := by decide +kernel
theorem dX2_readsDeath_111 : decode cX2_readsDeath 111 = .ok (.iadd, 1) := by decide +kernel
theorem dX2_readsDeath_112 : decode cX2_readsDeath 112 = .ok (.iload_n 3, 1) := by decide +kernel
theorem dX2_readsDeath_113 : decode cX2_readsDeath 113 = .ok (.iastore, 1) := by decide +kernel
theorem dX2_readsDeath_114 : decode cX2_readsDeath 114 = .ok (.aload_n 1, 1) := by decide +kernel
theorem dX2_readsDeath_115 : decode cX2_readsDeath 115 = .ok (.getfield 101, 3) := by decide +kernel
theorem dX2_readsDeath_118 : decode cX2_readsDeath 118 = .ok (.iload_n 2, 1) := by decide +kernel
theorem dX2_readsDeath_119 : decode cX2_readsDeath 119 = .ok (.iconst 1, 1) := by decide +kernel
theorem dX2_readsDeath_120 : decode cX2_readsDeath 120 = .ok (.iadd, 1) := by decide +kernel
theorem dX2_readsDeath_121 : decode cX2_readsDeath 121 = .ok (.iload 4, 2) := by decide +kernel
theorem dX2_readsDeath_123 : decode cX2_readsDeath 123 = .ok (.iastore, 1) := by decide +kernel
theorem dX2_readsDeath_124 : decode cX2_readsDeath 124 = .ok (.iconst 1, 1) := by decide +kernel
theorem dX2_readsDeath_125 : decode cX2_readsDeath 125 = .ok (.ireturn, 1) := by decide +kernel
theorem dX2_readsWorks_0 : decode cX2_readsWorks 0 = .ok (.iconst 0, 1) := by decide +kernel
theorem dX2_readsWorks_1 : decode cX2_readsWorks 1 = .ok (.istore_n 2, 1) := by decide +kernel
theorem dX2_readsWorks_2 : decode cX2_readsWorks 2 = .ok (.iload_n 2, 1) := by decide +kernel
theorem dX2_readsWorks_3 : decode cX2_readsWorks 3 = .ok (.bipush 6, 2) := by decide +kernel
theorem dX2_readsWorks_5 : decode cX2_readsWorks 5 = .ok (.if_icmp .gt 69, 3) := by decide +kernel
theorem dX2_readsWorks_8 : decode cX2_readsWorks 8 = .ok (.aload_n 0, 1) := by decide +kernel
theorem dX2_readsWorks_9 : decode cX2_readsWorks 9 = .ok (.invokevirtual 111, 3) := by decide +kernel
theorem dX2_readsWorks_12 : decode cX2_readsWorks 12 = .ok (.iconst (-1), 1) := by decide +kernel
theorem dX2_readsWorks_13 : decode cX2_readsWorks 13 = .ok (.if_icmp .eq 61, 3) := by decide +kernel
theorem dX2_readsWorks_16 : decode cX2_readsWorks 16 = .ok (.aload_n 1, 1) := by decide +kernel
theorem dX2_readsWorks_17 : decode cX2_readsWorks 17 = .ok (.getfield 115, 3) := by decide +kernel
theorem dX2_readsWorks_20 : decode cX2_readsWorks 20 = .ok (.bipush 6, 2) := by decide +kernel
theorem dX2_readsWorks_22 : decode cX2_readsWorks 22 = .ok (.if_icmp .lt 9, 3) := by decide +kernel
theorem dX2_readsWorks_25 : decode cX2_readsWorks 25 = .ok (.aload_n 0, 1) := by decide +kernel
theorem dX2_readsWorks_26 : decode cX2_readsWorks 26 = .ok (.iconst 3, 1) := by decide +kernel
theorem dX2_readsWorks_27 : decode cX2_readsWorks 27 = .ok (.invokevirtual 40, 3) := by decide +kernel
theorem dX2_readsWorks_30 : decode cX2_readsWorks 30 = .ok (.ireturn, 1) := by decide +kernel
theorem dX2_readsWorks_31 : decode cX2_readsWorks 31 = .ok (.aload_n 0, 1) := by decide +kernel
theorem dX2_readsWorks_32 : decode cX2_readsWorks 32 = .ok (.invokevirtual 111, 3) := by decide +kernel
theorem dX2_readsWorks_35 : decode cX2_readsWorks 35 = .ok (.istore_n 3, 1) := by decide +kernel
theorem dX2_readsWorks_36 : decode cX2_readsWorks 36 = .ok (.aload_n 0, 1) := by decide +kernel
theorem dX2_readsWorks_37 : decode cX2_readsWorks 37 = .ok (.getfield 12, 3) := by decide +kernel
theorem dX2_readsWorks_40 : decode cX2_readsWorks 40 = .ok (.invokevirtual 63, 3) := by decide +kernel
theorem dX2_readsWorks_43 : decode cX2_readsWorks 43 = .ok (.aload_n 0, 1) := by decide +kernel
theorem dX2_readsWorks_44 : decode cX2_readsWorks 44 = .ok (.aload_n 1, 1) := by decide +kernel
theorem dX2_readsWorks_45 : decode cX2_readsWorks 45 = .ok (.aload_n 1, 1) := by decide +kernel
theorem dX2_readsWorks_46 : decode cX2_readsWorks 46 = .ok (.getfield 115, 3) := by decide +kernel
theorem dX2_readsWorks_49 : decode cX2_readsWorks 49 = .ok (.iload_n 3, 1) := by decide +kernel
theorem dX2_readsWorks_50 : decode cX2_readsWorks 50 = .ok (.invokevirtual 118, 3) := by decide +kernel
theorem dX2_readsWorks_53 : decode cX2_readsWorks 53 = .ok (.ifCond .ne 5, 3) := by decide +kernel
theorem dX2_readsWorks_56 : decode cX2_readsWorks 56 = .ok (.iconst 0, 1) := by decide +kernel
theorem dX2_readsWorks_57 : decode cX2_readsWorks 57 = .ok (.ireturn, 1) := by decide +kernel
theorem dX2_readsWorks_58 : decode cX2_readsWorks 58 = .ok (.aload_n 1, 1) := by decide +kernel
theorem dX2_readsWorks_59 : decode cX2_readsWorks 59 = .ok (.dup, 1) := by decide +kernel
theorem dX2_readsWorks_60 : decode cX2_readsWorks 60 = .ok (.getfield 115, 3) := by decide +kernel
theorem dX2_readsWorks_63 : decode cX2_readsWorks 63 = .ok (.iconst 1, 1) := by decide +kernel
theorem dX2_readsWorks_64 : decode cX2_readsWorks 64 = .ok (.iadd, 1) := by decide +kernel
theorem dX2_readsWorks_65 : decode cX2_readsWorks 65 = .ok (.putfield 115, 3) := by decide +kernel
theorem dX2_readsWorks_68 : decode cX2_readsWorks 68 = .ok (.iinc 2 1, 3) := by decide +kernel
theorem dX2_readsWorks_71 : decode cX2_readsWorks 71 = .ok (.goto (-69), 3) := by decide +kernel
theorem dX2_readsWorks_74 : decode cX2_readsWorks 74 = .ok (.iconst 1, 1) := by decide +kernel
theorem dX2_readsWorks_75 : decode cX2_readsWorks 75 = .ok (.ireturn, 1) := by decide +kernel
theorem dX2_readsWork_0 : decode cX2_readsWork 0 = .ok (.iload_n 2, 1) := by decide +kernel
theorem dX2_readsWork_1 : decode cX2_readsWork 1 = .ok (.iconst 5, 1) := by decide +kernel
theorem dX2_readsWork_2 : decode cX2_readsWork 2 = .ok (.imul, 1) := by decide +kernel
theorem dX2_readsWork_3 : decode cX2_readsWork 3 = .ok (.istore 4, 2) := by decide +kernel
theorem dX2_readsWork_5 : decode cX2_readsWork 5 = .ok (.aload_n 1, 1) := by decide +kernel
theorem dX2_readsWork_6 : decode cX2_readsWork 6 = .ok (.getfield 121, 3) := by decide +kernel
theorem dX2_readsWork_9 : decode cX2_readsWork 9 = .ok (.iload 4, 2) := by decide +kernel
theorem dX2_readsWork_11 : decode cX2_readsWork 11 = .ok (.iconst 0, 1) := by decide +kernel
theorem dX2_readsWork_12 : decode cX2_readsWork 12 = .ok (.iadd, 1) := by decide +kernel
theorem dX2_readsWork_13 : decode cX2_readsWork 13 = .ok (.iload_n 3, 1) := by decide +kernel
theorem dX2_readsWork_14 : decode cX2_readsWork 14 = .ok (.iastore, 1) := by decide +kernel
theorem dX2_readsWork_15 : decode cX2_readsWork 15 = .ok (.aload_n 1, 1) := by decide +kernel
theorem dX2_readsWork_16 : decode cX2_readsWork 16 = .ok (.getfield 121, 3) := by decide +kernel
theorem dX2_readsWork_19 : decode cX2_readsWork 19 = .ok (.iload 4, 2) := by decide +kernel
theorem dX2_readsWork_21 : decode cX2_readsWork 21 = .ok (.iconst 3, 1) := by decide +kernel
theorem dX2_readsWork_22 : decode cX2_readsWork 22 = .ok (.iadd, 1) := by decide +kernel
theorem dX2_readsWork_23 : decode cX2_readsWork 23 = .ok (.iconst 0, 1) := by decide +kernel
theorem dX2_readsWork_24 : decode cX2_readsWork 24 = .ok (.iastore, 1) := by decide +kernel
theorem dX2_readsWork_25 : decode cX2_readsWork 25 = .ok (.iconst 1, 1) := by decide +kernel
theorem dX2_readsWork_26 : decode cX2_readsWork 26 = .ok (.istore 5, 2) := by decide +kernel
theorem dX2_readsWork_28 : decode cX2_readsWork 28 = .ok (.iload 5, 2) := by decide +kernel
theorem dX2_readsWork_30 : decode cX2_readsWork 30 = .ok (.iconst 4, 1) := by decide +kernel
theorem dX2_readsWork_31 : decode cX2_readsWork 31 = .ok (.if_icmp .gt 70, 3) := by decide +kernel
theorem dX2_readsWork_34 : decode cX2_readsWork 34 = .ok (.aload_n 0, 1) := by decide +kernel
theorem dX2_readsWork_35 : decode cX2_readsWork 35 = .ok (.getfield 12, 3) := by decide +kernel
theorem dX2_readsWork_38 : decode cX2_readsWork 38 = .ok (.getfield 74, 3) := by decide +kernel
theorem dX2_readsWork_41 : decode cX2_readsWork 41 = .ok (.istore 6, 2) := by decide +kernel
theorem dX2_readsWork_43 : decode cX2_readsWork 43 = .ok (.aload_n 0, 1) := by decide +kernel
theorem dX2_readsWork_44 : decode cX2_readsWork 44 = .ok (.aload_n 1, 1) := by decide +kernel
theorem dX2_readsWork_45 : decode cX2_readsWork 45 = .ok (.iload_n 2, 1) := by decide +kernel
theorem dX2_readsWork_46 : decode cX2_readsWork 46 = .ok (.iload 5, 2) := by decide +kernel
theorem dX2_readsWork_48 : decode cX2_readsWork 48 = .ok (.iload 6, 2) := by decide +kernel
theorem dX2_readsWork_50 : decode cX2_readsWork 50 = .ok (.invokevirtual 124, 3) := by decide +kernel
theorem dX2_readsWork_53 : decode cX2_readsWork 53 = .ok (.invokevirtual 81, 3) := by decide +kernel
theorem dX2_readsWork_56 : decode cX2_readsWork 56 = .ok (.ifCond .ne 5, 3) := by decide +kernel
theorem dX2_readsWork_59 : decode cX2_readsWork 59 = .ok (.iconst 0, 1) := by decide +kernel
theorem dX2_readsWork_60 : decode cX2_readsWork 60 = .ok (.ireturn, 1) := by decide +kernel
theorem dX2_readsWork_61 : decode cX2_readsWork 61 = .ok (.aload_n 1, 1) := by decide +kernel
theorem dX2_readsWork_62 : decode cX2_readsWork 62 = .ok (.getfield 121, 3) := by decide +kernel
theorem dX2_readsWork_65 : decode cX2_readsWork 65 = .ok (.iload 4, 2) := by decide +kernel
theorem dX2_readsWork_67 : decode cX2_readsWork 67 = .ok (.iload 5, 2) := by decide +kernel
theorem dX2_readsWork_69 : decode cX2_readsWork 69 = .ok (.iadd, 1) := by decide +kernel
theorem dX2_readsWork_70 : decode cX2_readsWork 70 = .ok (.iload 6, 2) := by decide +kernel
theorem dX2_readsWork_72 : decode cX2_readsWork 72 = .ok (.iastore, 1) := by decide +kernel
theorem dX2_readsWork_73 : decode cX2_readsWork 73 = .ok (.aload_n 0, 1) := by decide +kernel
theorem dX2_readsWork_74 : decode cX2_readsWork 74 = .ok (.iload 5, 2) := by decide +kernel
theorem dX2_readsWork_76 : decode cX2_readsWork 76 = .ok (.iconst 4, 1) := by decide +kernel
theorem dX2_readsWork_77 : decode cX2_readsWork 77 = .ok (.if_icmp .ge 8, 3) := by decide +kernel
theorem dX2_readsWork_80 : decode cX2_readsWork 80 = .ok (.bipush 44, 2) := by decide +kernel
theorem dX2_readsWork_82 : decode cX2_readsWork 82 = .ok (.goto 5, 3) := by decide +kernel
theorem dX2_readsWork_85 : decode cX2_readsWork 85 = .ok (.bipush 59, 2) := by decide +kernel
theorem dX2_readsWork_87 : decode cX2_readsWork 87 = .ok (.invokevirtual 92, 3) := by decide +kernel
theorem dX2_readsWork_90 : decode cX2_readsWork 90 = .ok (.ifCond .ne 5, 3) := by decide +kernel
theorem dX2_readsWork_93 : decode cX2_readsWork 93 = .ok (.iconst 0, 1) := by decide +kernel
theorem dX2_readsWork_94 : decode cX2_readsWork 94 = .ok (.ireturn, 1) := by decide +kernel
theorem dX2_readsWork_95 : decode cX2_readsWork 95 = .ok (.iinc 5 1, 3) := by decide +kernel
theorem dX2_readsWork_98 : decode cX2_readsWork 98 = .ok (.goto (-70), 3) := by decide +kernel
theorem dX2_readsWork_101 : decode cX2_readsWork 101 = .ok (.iconst 1, 1) := by decide +kernel
theorem dX2_readsWork_102 : decode cX2_readsWork 102 = .ok (.ireturn, 1) := by decide +kernel
theorem dX2_kindAhead_0 : decode cX2_kindAhead 0 = .ok (.aload_n 0, 1) := by decide +kernel
theorem dX2_kindAhead_1 : decode cX2_kindAhead 1 = .ok (.getfield 12, 3) := by decide +kernel
theorem dX2_kindAhead_4 : decode cX2_kindAhead 4 = .ok (.getfield 36, 3) := by decide +kernel
theorem dX2_kindAhead_7 : decode cX2_kindAhead 7 = .ok (.ifCond .eq 5, 3) := by decide +kernel
theorem dX2_kindAhead_10 : decode cX2_kindAhead 10 = .ok (.iconst (-1), 1) := by decide +kernel
theorem dX2_kindAhead_11 : decode cX2_kindAhead 11 = .ok (.ireturn, 1) := by decide +kernel
theorem dX2_kindAhead_12 : decode cX2_kindAhead 12 = .ok (.aload_n 0, 1) := by decide +kernel
theorem dX2_kindAhead_13 : decode cX2_kindAhead 13 = .ok (.getfield 12, 3) := by decide +kernel
theorem dX2_kindAhead_16 : decode cX2_kindAhead 16 = .ok (.getfield 74, 3) := by decide +kernel
theorem dX2_kindAhead_19 : decode cX2_kindAhead 19 = .ok (.lookupswitch 59 #[(98, 49), (102, 55), (110, 57), (112, 53), (115, 51)], 49) := by decide +kernel
theorem dX2_kindAhead_68 : decode cX2_kindAhead 68 = .ok (.iconst 1, 1) := by decide +kernel
theorem dX2_kindAhead_69 : decode cX2_kindAhead 69 = .ok (.ireturn, 1) := by decide +kernel
theorem dX2_kindAhead_70 : decode cX2_kindAhead 70 = .ok (.iconst 2, 1) := by decide +kernel
theorem dX2_kindAhead_71 : decode cX2_kindAhead 71 = .ok (.ireturn, 1) := by decide +kernel
theorem dX2_kindAhead_72 : decode cX2_kindAhead 72 = .ok (.iconst 3, 1) := by decide +kernel
theorem dX2_kindAhead_73 : decode cX2_kindAhead 73 = .ok (.ireturn, 1) := by decide +kernel
theorem dX2_kindAhead_74 : decode cX2_kindAhead 74 = .ok (.iconst 4, 1) := by decide +kernel
theorem dX2_kindAhead_75 : decode cX2_kindAhead 75 = .ok (.ireturn, 1) := by decide +kernel
theorem dX2_kindAhead_76 : decode cX2_kindAhead 76 = .ok (.iconst 5, 1) := by decide +kernel
theorem dX2_kindAhead_77 : decode cX2_kindAhead 77 = .ok (.ireturn, 1) := by decide +kernel
theorem dX2_kindAhead_78 : decode cX2_kindAhead 78 = .ok (.iconst (-1), 1) := by decide +kernel
theorem dX2_kindAhead_79 : decode cX2_kindAhead 79 = .ok (.ireturn, 1) := by decide +kernel
theorem dX2_passesNumber_0 : decode cX2_passesNumber 0 = .ok (.aload_n 0, 1) := by decide +kernel
theorem dX2_passesNumber_1 : decode cX2_passesNumber 1 = .ok (.getfield 12, 3) := by decide +kernel
theorem dX2_passesNumber_4 : decode cX2_passesNumber 4 = .ok (.getfield 36, 3) := by decide +kernel
theorem dX2_passesNumber_7 : decode cX2_passesNumber 7 = .ok (.iconst 1, 1) := by decide +kernel
theorem dX2_passesNumber_8 : decode cX2_passesNumber 8 = .ok (.if_icmp .eq 9, 3) := by decide +kernel
theorem dX2_passesNumber_11 : decode cX2_passesNumber 11 = .ok (.aload_n 0, 1) := by decide +kernel
theorem dX2_passesNumber_12 : decode cX2_passesNumber 12 = .ok (.iconst 1, 1) := by decide +kernel
theorem dX2_passesNumber_13 : decode cX2_passesNumber 13 = .ok (.invokevirtual 40, 3) := by decide +kernel
theorem dX2_passesNumber_16 : decode cX2_passesNumber 16 = .ok (.ireturn, 1) := by decide +kernel
theorem dX2_passesNumber_17 : decode cX2_passesNumber 17 = .ok (.iload_n 1, 1) := by decide +kernel
theorem dX2_passesNumber_18 : decode cX2_passesNumber 18 = .ok (.ifCond .ne 9, 3) := by decide +kernel
theorem dX2_passesNumber_21 : decode cX2_passesNumber 21 = .ok (.aload_n 0, 1) := by decide +kernel
theorem dX2_passesNumber_22 : decode cX2_passesNumber 22 = .ok (.iconst 2, 1) := by decide +kernel
theorem dX2_passesNumber_23 : decode cX2_passesNumber 23 = .ok (.invokevirtual 40, 3) := by decide +kernel
theorem dX2_passesNumber_26 : decode cX2_passesNumber 26 = .ok (.ireturn, 1) := by decide +kernel
theorem dX2_passesNumber_27 : decode cX2_passesNumber 27 = .ok (.aload_n 0, 1) := by decide +kernel
theorem dX2_passesNumber_28 : decode cX2_passesNumber 28 = .ok (.getfield 12, 3) := by decide +kernel
theorem dX2_passesNumber_31 : decode cX2_passesNumber 31 = .ok (.invokevirtual 63, 3) := by decide +kernel
theorem dX2_passesNumber_34 : decode cX2_passesNumber 34 = .ok (.iconst 1, 1) := by decide +kernel
theorem dX2_passesNumber_35 : decode cX2_passesNumber 35 = .ok (.ireturn, 1) := by decide +kernel
theorem dX2_passesSign_0 : decode cX2_passesSign 0 = .ok (.aload_n 0, 1) := by decide +kernel
theorem dX2_passesSign_1 : decode cX2_passesSign 1 = .ok (.getfield 12, 3) := by decide +kernel
theorem dX2_passesSign_4 : decode cX2_passesSign 4 = .ok (.iload_n 1, 1) := by decide +kernel
theorem dX2_passesSign_5 : decode cX2_passesSign 5 = .ok (.invokevirtual 104, 3) := by decide +kernel
theorem dX2_passesSign_8 : decode cX2_passesSign 8 = .ok (.ifCond .ne 9, 3) := by decide +kernel
theorem dX2_passesSign_11 : decode cX2_passesSign 11 = .ok (.aload_n 0, 1) := by decide +kernel
theorem dX2_passesSign_12 : decode cX2_passesSign 12 = .ok (.iconst 1, 1) := by decide +kernel
theorem dX2_passesSign_13 : decode cX2_passesSign 13 = .ok (.invokevirtual 40, 3) := by decide +kernel
theorem dX2_passesSign_16 : decode cX2_passesSign 16 = .ok (.ireturn, 1) := by decide +kernel
theorem dX2_passesSign_17 : decode cX2_passesSign 17 = .ok (.aload_n 0, 1) := by decide +kernel
theorem dX2_passesSign_18 : decode cX2_passesSign 18 = .ok (.getfield 12, 3) := by decide +kernel
theorem dX2_passesSign_21 : decode cX2_passesSign 21 = .ok (.invokevirtual 63, 3) := by decide +kernel
theorem dX2_passesSign_24 : decode cX2_passesSign 24 = .ok (.iconst 1, 1) := by decide +kernel
theorem dX2_passesSign_25 : decode cX2_passesSign 25 = .ok (.ireturn, 1) := by decide +kernel
theorem dX3_init_0 : decode cX3_init 0 = .ok (.aload_n 0, 1) := by decide +kernel
theorem dX3_init_1 : decode cX3_init 1 = .ok (.invokespecial 3, 3) := by decide +kernel
theorem dX3_init_4 : decode cX3_init 4 = .ok (.aload_n 0, 1) := by decide +kernel
theorem dX3_init_5 : decode cX3_init 5 = .ok (.iconst 4, 1) := by decide +kernel
theorem dX3_init_6 : decode cX3_init 6 = .ok (.newarray .int, 2) := by decide +kernel
theorem dX3_init_8 : decode cX3_init 8 = .ok (.putfield 9, 3) := by decide +kernel
theorem dX3_init_11 : decode cX3_init 11 = .ok (.aload_n 0, 1) := by decide +kernel
theorem dX3_init_12 : decode cX3_init 12 = .ok (.bipush 96, 2) := by decide +kernel
theorem dX3_init_14 : decode cX3_init 14 = .ok (.newarray .int, 2) := by decide +kernel
theorem dX3_init_16 : decode cX3_init 16 = .ok (.putfield 15, 3) := by decide +kernel
theorem dX3_init_19 : decode cX3_init 19 = .ok (.aload_n 0, 1) := by decide +kernel
theorem dX3_init_20 : decode cX3_init 20 = .ok (.bipush 16, 2) := by decide +kernel
theorem dX3_init_22 : decode cX3_init 22 = .ok (.newarray .int, 2) := by decide +kernel
theorem dX3_init_24 : decode cX3_init 24 = .ok (.putfield 18, 3) := by decide +kernel
theorem dX3_init_27 : decode cX3_init 27 = .ok (.aload_n 0, 1) := by decide +kernel
theorem dX3_init_28 : decode cX3_init 28 = .ok (.bipush 30, 2) := by decide +kernel
theorem dX3_init_30 : decode cX3_init 30 = .ok (.newarray .int, 2) := by decide +kernel
theorem dX3_init_32 : decode cX3_init 32 = .ok (.putfield 21, 3) := by decide +kernel
theorem dX3_init_35 : decode cX3_init 35 = .ok (.return_, 1) := by decide +kernel
theorem dX3_clear_0 : decode cX3_clear 0 = .ok (.aload_n 0, 1) := by decide +kernel
theorem dX3_clear_1 : decode cX3_clear 1 = .ok (.iconst 0, 1) := by decide +kernel
theorem dX3_clear_2 : decode cX3_clear 2 = .ok (.putfield 24, 3) := by decide +kernel
theorem dX3_clear_5 : decode cX3_clear 5 = .ok (.aload_n 0, 1) := by decide +kernel
theorem dX3_clear_6 : decode cX3_clear 6 = .ok (.iconst 0, 1) := by decide +kernel
theorem dX3_clear_7 : decode cX3_clear 7 = .ok (.putfield 28, 3) := by decide +kernel
theorem dX3_clear_10 : decode cX3_clear 10 = .ok (.aload_n 0, 1) := by decide +kernel
theorem dX3_clear_11 : decode cX3_clear 11 = .ok (.iconst 0, 1) := by decide +kernel
theorem dX3_clear_12 : decode cX3_clear 12 = .ok (.putfield 31, 3) := by decide +kernel
theorem dX3_clear_15 : decode cX3_clear 15 = .ok (.return_, 1) := by decide +kernel
theorem dX3_copyFrom_0 : decode cX3_copyFrom 0 = .ok (.aload_n 0, 1) := by decide +kernel
theorem dX3_copyFrom_1 : decode cX3_copyFrom 1 = .ok (.aload_n 1, 1) := by decide +kernel
theorem dX3_copyFrom_2 : decode cX3_copyFrom 2 = .ok (.getfield 24, 3) := by decide +kernel
theorem dX3_copyFrom_5 : decode cX3_copyFrom 5 = .ok (.putfield 24, 3) := by decide +kernel
theorem dX3_copyFrom_8 : decode cX3_copyFrom 8 = .ok (.aload_n 0, 1) := by decide +kernel
theorem dX3_copyFrom_9 : decode cX3_copyFrom 9 = .ok (.aload_n 1, 1) := by decide +kernel
theorem dX3_copyFrom_10 : decode cX3_copyFrom 10 = .ok (.getfield 28, 3) := by decide +kernel
theorem dX3_copyFrom_13 : decode cX3_copyFrom 13 = .ok (.putfield 28, 3) := by decide +kernel
theorem dX3_copyFrom_16 : decode cX3_copyFrom 16 = .ok (.aload_n 0, 1) := by decide +kernel
theorem dX3_copyFrom_17 : decode cX3_copyFrom 17 = .ok (.aload_n 1, 1) := by decide +kernel
theorem dX3_copyFrom_18 : decode cX3_copyFrom 18 = .ok (.getfield 31, 3) := by decide +kernel
theorem dX3_copyFrom_21 : decode cX3_copyFrom 21 = .ok (.putfield 31, 3) := by decide +kernel
theorem dX3_copyFrom_24 : decode cX3_copyFrom 24 = .ok (.aload_n 1, 1) := by decide +kernel
theorem dX3_copyFrom_25 : decode cX3_copyFrom 25 = .ok (.getfield 9, 3) := by decide +kernel
theorem dX3_copyFrom_28 : decode cX3_copyFrom 28 = .ok (.iconst 0, 1) := by decide +kernel
theorem dX3_copyFrom_29 : decode cX3_copyFrom 29 = .ok (.aload_n 0, 1) := by decide +kernel
theorem dX3_copyFrom_30 : decode cX3_copyFrom 30 = .ok (.getfield 9, 3) := by decide +kernel
theorem dX3_copyFrom_33 : decode cX3_copyFrom 33 = .ok (.iconst 0, 1) := by decide +kernel
theorem dX3_copyFrom_34 : decode cX3_copyFrom 34 = .ok (.aload_n 0, 1) := by decide +kernel
theorem dX3_copyFrom_35 : decode cX3_copyFrom 35 = .ok (.getfield 9, 3) := by decide +kernel
theorem dX3_copyFrom_38 : decode cX3_copyFrom 38 = .ok (.arraylength, 1) := by decide +kernel
theorem dX3_copyFrom_39 : decode cX3_copyFrom 39 = .ok (.invokestatic 34, 3) := by decide +kernel
theorem dX3_copyFrom_42 : decode cX3_copyFrom 42 = .ok (.aload_n 1, 1) := by decide +kernel
theorem dX3_copyFrom_43 : decode cX3_copyFrom 43 = .ok (.getfield 15, 3) := by decide +kernel
theorem dX3_copyFrom_46 : decode cX3_copyFrom 46 = .ok (.iconst 0, 1) := by decide +kernel
theorem dX3_copyFrom_47 : decode cX3_copyFrom 47 = .ok (.aload_n 0, 1) := by decide +kernel
theorem dX3_copyFrom_48 : decode cX3_copyFrom 48 = .ok (.getfield 15, 3) := by decide +kernel
theorem dX3_copyFrom_51 : decode cX3_copyFrom 51 = .ok (.iconst 0, 1) := by decide +kernel
theorem dX3_copyFrom_52 : decode cX3_copyFrom 52 = .ok (.aload_n 0, 1) := by decide +kernel
theorem dX3_copyFrom_53 : decode cX3_copyFrom 53 = .ok (.getfield 15, 3) := by decide +kernel
theorem dX3_copyFrom_56 : decode cX3_copyFrom 56 = .ok (.arraylength, 1) := by decide +kernel
theorem dX3_copyFrom_57 : decode cX3_copyFrom 57 = .ok (.invokestatic 34, 3) := by decide +kernel
theorem dX3_copyFrom_60 : decode cX3_copyFrom 60 = .ok (.aload_n 1, 1) := by decide +kernel
theorem dX3_copyFrom_61 : decode cX3_copyFrom 61 = .ok (.getfield 18, 3) := by decide +kernel
theorem dX3_copyFrom_64 : decode cX3_copyFrom 64 = .ok (.iconst 0, 1) := by decide +kernel
theorem dX3_copyFrom_65 : decode cX3_copyFrom 65 = .ok (.aload_n 0, 1) := by decide +kernel
theorem dX3_copyFrom_66 : decode cX3_copyFrom 66 = .ok (.getfield 18, 3) := by decide +kernel
theorem dX3_copyFrom_69 : decode cX3_copyFrom 69 = .ok (.iconst 0, 1) := by decide +kernel
theorem dX3_copyFrom_70 : decode cX3_copyFrom 70 = .ok (.aload_n 0, 1) := by decide +kernel
theorem dX3_copyFrom_71 : decode cX3_copyFrom 71 = .ok (.getfield 18, 3) := by decide +kernel
theorem dX3_copyFrom_74 : decode cX3_copyFrom 74 = .ok (.arraylength, 1) := by decide +kernel
theorem dX3_copyFrom_75 : decode cX3_copyFrom 75 = .ok (.invokestatic 34, 3) := by decide +kernel
theorem dX3_copyFrom_78 : decode cX3_copyFrom 78 = .ok (.aload_n 1, 1) := by decide +kernel
theorem dX3_copyFrom_79 : decode cX3_copyFrom 79 = .ok (.getfield 21, 3) := by decide +kernel
theorem dX3_copyFrom_82 : decode cX3_copyFrom 82 = .ok (.iconst 0, 1) := by decide +kernel
theorem dX3_copyFrom_83 : decode cX3_copyFrom 83 = .ok (.aload_n 0, 1) := by decide +kernel
theorem dX3_copyFrom_84 : decode cX3_copyFrom 84 = .ok (.getfield 21, 3) := by decide +kernel
theorem dX3_copyFrom_87 : decode cX3_copyFrom 87 = .ok (.iconst 0, 1) := by decide +kernel
theorem dX3_copyFrom_88 : decode cX3_copyFrom 88 = .ok (.aload_n 0, 1) := by decide +kernel
theorem dX3_copyFrom_89 : decode cX3_copyFrom 89 = .ok (.getfield 21, 3) := by decide +kernel
theorem dX3_copyFrom_92 : decode cX3_copyFrom 92 = .ok (.arraylength, 1) := by decide +kernel
theorem dX3_copyFrom_93 : decode cX3_copyFrom 93 = .ok (.invokestatic 34, 3) := by decide +kernel
theorem dX3_copyFrom_96 : decode cX3_copyFrom 96 = .ok (.return_, 1) := by decide +kernel
theorem dX3_hasLand_0 : decode cX3_hasLand 0 = .ok (.iload_n 1, 1) := by decide +kernel
theorem dX3_hasLand_1 : decode cX3_hasLand 1 = .ok (.ifCond .lt 15, 3) := by decide +kernel
theorem dX3_hasLand_4 : decode cX3_hasLand 4 = .ok (.iload_n 1, 1) := by decide +kernel
theorem dX3_hasLand_5 : decode cX3_hasLand 5 = .ok (.aload_n 0, 1) := by decide +kernel
theorem dX3_hasLand_6 : decode cX3_hasLand 6 = .ok (.getfield 24, 3) := by decide +kernel
theorem dX3_hasLand_9 : decode cX3_hasLand 9 = .ok (.if_icmp .ge 7, 3) := by decide +kernel
theorem dX3_hasLand_12 : decode cX3_hasLand 12 = .ok (.iconst 1, 1) := by decide +kernel
theorem dX3_hasLand_13 : decode cX3_hasLand 13 = .ok (.goto 4, 3) := by decide +kernel
theorem dX3_hasLand_16 : decode cX3_hasLand 16 = .ok (.iconst 0, 1) := by decide +kernel
theorem dX3_hasLand_17 : decode cX3_hasLand 17 = .ok (.ireturn, 1) := by decide +kernel
theorem dX3_hasAct_0 : decode cX3_hasAct 0 = .ok (.aload_n 0, 1) := by decide +kernel
theorem dX3_hasAct_1 : decode cX3_hasAct 1 = .ok (.iload_n 1, 1) := by decide +kernel
theorem dX3_hasAct_2 : decode cX3_hasAct 2 = .ok (.invokevirtual 40, 3) := by decide +kernel
theorem dX3_hasAct_5 : decode cX3_hasAct 5 = .ok (.ifCond .eq 21, 3) := by decide +kernel
theorem dX3_hasAct_8 : decode cX3_hasAct 8 = .ok (.iload_n 2, 1) := by decide +kernel
theorem dX3_hasAct_9 : decode cX3_hasAct 9 = .ok (.ifCond .lt 17, 3) := by decide +kernel
theorem dX3_hasAct_12 : decode cX3_hasAct 12 = .ok (.iload_n 2, 1) := by decide +kernel
theorem dX3_hasAct_13 : decode cX3_hasAct 13 = .ok (.aload_n 0, 1) := by decide +kernel
theorem dX3_hasAct_14 : decode cX3_hasAct 14 = .ok (.getfield 9, 3) := by decide +kernel
theorem dX3_hasAct_17 : decode cX3_hasAct 17 = .ok (.iload_n 1, 1) := by decide +kernel
theorem dX3_hasAct_18 : decode cX3_hasAct 18 = .ok (.iaload, 1) := by decide +kernel
theorem dX3_hasAct_19 : decode cX3_hasAct 19 = .ok (.if_icmp .ge 7, 3) := by decide +kernel
theorem dX3_hasAct_22 : decode cX3_hasAct 22 = .ok (.iconst 1, 1) := by decide +kernel
theorem dX3_hasAct_23 : decode cX3_hasAct 23 = .ok (.goto 4, 3) := by decide +kernel
theorem dX3_hasAct_26 : decode cX3_hasAct 26 = .ok (.iconst 0, 1) := by decide +kernel
theorem dX3_hasAct_27 : decode cX3_hasAct 27 = .ok (.ireturn, 1) := by decide +kernel
theorem dX3_hasAuthor_0 : decode cX3_hasAuthor 0 = .ok (.iload_n 1, 1) := by decide +kernel
theorem dX3_hasAuthor_1 : decode cX3_hasAuthor 1 = .ok (.ifCond .lt 15, 3) := by decide +kernel
theorem dX3_hasAuthor_4 : decode cX3_hasAuthor 4 = .ok (.iload_n 1, 1) := by decide +kernel
theorem dX3_hasAuthor_5 : decode cX3_hasAuthor 5 = .ok (.aload_n 0, 1) := by decide +kernel
theorem dX3_hasAuthor_6 : decode cX3_hasAuthor 6 = .ok (.getfield 28, 3) := by decide +kernel
theorem dX3_hasAuthor_9 : decode cX3_hasAuthor 9 = .ok (.if_icmp .ge 7, 3) := by decide +kernel
theorem dX3_hasAuthor_12 : decode cX3_hasAuthor 12 = .ok (.iconst 1, 1) := by decide +kernel
theorem dX3_hasAuthor_13 : decode cX3_hasAuthor 13 = .ok (.goto 4, 3) := by decide +kernel
theorem dX3_hasAuthor_16 : decode cX3_hasAuthor 16 = .ok (.iconst 0, 1) := by decide +kernel
theorem dX3_hasAuthor_17 : decode cX3_hasAuthor 17 = .ok (.ireturn, 1) := by decide +kernel
theorem dX3_hasWork_0 : decode cX3_hasWork 0 = .ok (.iload_n 1, 1) := by decide +kernel
theorem dX3_hasWork_1 : decode cX3_hasWork 1 = .ok (.ifCond .lt 15, 3) := by decide +kernel
theorem dX3_hasWork_4 : decode cX3_hasWork 4 = .ok (.iload_n 1, 1) := by decide +kernel
theorem dX3_hasWork_5 : decode cX3_hasWork 5 = .ok (.aload_n 0, 1) := by decide +kernel
theorem dX3_hasWork_6 : decode cX3_hasWork 6 = .ok (.getfield 31, 3) := by decide +kernel
theorem dX3_hasWork_9 : decode cX3_hasWork 9 = .ok (.if_icmp .ge 7, 3) := by decide +kernel
theorem dX3_hasWork_12 : decode cX3_hasWork 12 = .ok (.iconst 1, 1) := by decide +kernel
theorem dX3_hasWork_13 : decode cX3_hasWork 13 = .ok (.goto 4, 3) := by decide +kernel
theorem dX3_hasWork_16 : decode cX3_hasWork 16 = .ok (.iconst 0, 1) := by decide +kernel
theorem dX3_hasWork_17 : decode cX3_hasWork 17 = .ok (.ireturn, 1) := by decide +kernel
theorem dX3_actRow_0 : decode cX3_actRow 0 = .ok (.iload_n 1, 1) := by decide +kernel
theorem dX3_actRow_1 : decode cX3_actRow 1 = .ok (.iconst 4, 1) := by decide +kernel
theorem dX3_actRow_2 : decode cX3_actRow 2 = .ok (.imul, 1) := by decide +kernel
theorem dX3_actRow_3 : decode cX3_actRow 3 = .ok (.iload_n 2, 1) := by decide +kernel
theorem dX3_actRow_4 : decode cX3_actRow 4 = .ok (.iadd, 1) := by decide +kernel
theorem dX3_actRow_5 : decode cX3_actRow 5 = .ok (.bipush 6, 2) := by decide +kernel
theorem dX3_actRow_7 : decode cX3_actRow 7 = .ok (.imul, 1) := by decide +kernel
theorem dX3_actRow_8 : decode cX3_actRow 8 = .ok (.ireturn, 1) := by decide +kernel
theorem dX3_ofWork_0 : decode cX3_ofWork 0 = .ok (.aload_n 0, 1) := by decide +kernel
theorem dX3_ofWork_1 : decode cX3_ofWork 1 = .ok (.getfield 21, 3) := by decide +kernel
theorem dX3_ofWork_4 : decode cX3_ofWork 4 = .ok (.iload_n 1, 1) := by decide +kernel
theorem dX3_ofWork_5 : decode cX3_ofWork 5 = .ok (.iconst 5, 1) := by decide +kernel
theorem dX3_ofWork_6 : decode cX3_ofWork 6 = .ok (.imul, 1) := by decide +kernel
theorem dX3_ofWork_7 : decode cX3_ofWork 7 = .ok (.iload_n 2, 1) := by decide +kernel
theorem dX3_ofWork_8 : decode cX3_ofWork 8 = .ok (.iadd, 1) := by decide +kernel
theorem dX3_ofWork_9 : decode cX3_ofWork 9 = .ok (.iaload, 1) := by decide +kernel
theorem dX3_ofWork_10 : decode cX3_ofWork 10 = .ok (.ireturn, 1) := by decide +kernel
theorem dX3_isBy_0 : decode cX3_isBy 0 = .ok (.aload_n 0, 1) := by decide +kernel
theorem dX3_isBy_1 : decode cX3_isBy 1 = .ok (.iload_n 1, 1) := by decide +kernel
theorem dX3_isBy_2 : decode cX3_isBy 2 = .ok (.iconst 4, 1) := by decide +kernel
theorem dX3_isBy_3 : decode cX3_isBy 3 = .ok (.invokevirtual 44, 3) := by decide +kernel
theorem dX3_isBy_6 : decode cX3_isBy 6 = .ok (.iload_n 2, 1) := by decide +kernel
theorem dX3_isBy_7 : decode cX3_isBy 7 = .ok (.ishr, 1) := by decide +kernel
theorem dX3_isBy_8 : decode cX3_isBy 8 = .ok (.iconst 1, 1) := by decide +kernel
theorem dX3_isBy_9 : decode cX3_isBy 9 = .ok (.iand, 1) := by decide +kernel
theorem dX3_isBy_10 : decode cX3_isBy 10 = .ok (.ifCond .eq 7, 3) := by decide +kernel
theorem dX3_isBy_13 : decode cX3_isBy 13 = .ok (.iconst 1, 1) := by decide +kernel
theorem dX3_isBy_14 : decode cX3_isBy 14 = .ok (.goto 4, 3) := by decide +kernel
theorem dX3_isBy_17 : decode cX3_isBy 17 = .ok (.iconst 0, 1) := by decide +kernel
theorem dX3_isBy_18 : decode cX3_isBy 18 = .ok (.ireturn, 1) := by decide +kernel
theorem dX3_allActs_0 : decode cX3_allActs 0 = .ok (.iconst 0, 1) := by decide +kernel
theorem dX3_allActs_1 : decode cX3_allActs 1 = .ok (.istore_n 1, 1) := by decide +kernel
theorem dX3_allActs_2 : decode cX3_allActs 2 = .ok (.iconst 0, 1) := by decide +kernel
theorem dX3_allActs_3 : decode cX3_allActs 3 = .ok (.istore_n 2, 1) := by decide +kernel
theorem dX3_allActs_4 : decode cX3_allActs 4 = .ok (.iload_n 2, 1) := by decide +kernel
theorem dX3_allActs_5 : decode cX3_allActs 5 = .ok (.aload_n 0, 1) := by decide +kernel
theorem dX3_allActs_6 : decode cX3_allActs 6 = .ok (.getfield 24, 3) := by decide +kernel
theorem dX3_allActs_9 : decode cX3_allActs 9 = .ok (.if_icmp .ge 18, 3) := by decide +kernel
theorem dX3_allActs_12 : decode cX3_allActs 12 = .ok (.iload_n 1, 1) := by decide +kernel
theorem dX3_allActs_13 : decode cX3_allActs 13 = .ok (.aload_n 0, 1) := by decide +kernel
theorem dX3_allActs_14 : decode cX3_allActs 14 = .ok (.getfield 9, 3) := by decide +kernel
theorem dX3_allActs_17 : decode cX3_allActs 17 = .ok (.iload_n 2, 1) := by decide +kernel
theorem dX3_allActs_18 : decode cX3_allActs 18 = .ok (.iaload, 1) := by decide +kernel
theorem dX3_allActs_19 : decode cX3_allActs 19 = .ok (.iadd, 1) := by decide +kernel
theorem dX3_allActs_20 : decode cX3_allActs 20 = .ok (.istore_n 1, 1) := by decide +kernel
theorem dX3_allActs_21 : decode cX3_allActs 21 = .ok (.iinc 2 1, 3) := by decide +kernel
theorem dX3_allActs_24 : decode cX3_allActs 24 = .ok (.goto (-20), 3) := by decide +kernel
theorem dX3_allActs_27 : decode cX3_allActs 27 = .ok (.iload_n 1, 1) := by decide +kernel
theorem dX3_allActs_28 : decode cX3_allActs 28 = .ok (.ireturn, 1) := by decide +kernel
theorem dX3_actFits_0 : decode cX3_actFits 0 = .ok (.iconst 0, 1) := by decide +kernel
theorem dX3_actFits_1 : decode cX3_actFits 1 = .ok (.istore 5, 2) := by decide +kernel
theorem dX3_actFits_3 : decode cX3_actFits 3 = .ok (.iload_n 3, 1) := by decide +kernel
theorem dX3_actFits_4 : decode cX3_actFits 4 = .ok (.ifCond .ne 32, 3) := by decide +kernel
theorem dX3_actFits_7 : decode cX3_actFits 7 = .ok (.iload_n 2, 1) := by decide +kernel
theorem dX3_actFits_8 : decode cX3_actFits 8 = .ok (.ifCond .ne 9, 3) := by decide +kernel
theorem dX3_actFits_11 : decode cX3_actFits 11 = .ok (.sipush 1700, 3) := by decide +kernel
theorem dX3_actFits_14 : decode cX3_actFits 14 = .ok (.goto 20, 3) := by decide +kernel
theorem dX3_actFits_17 : decode cX3_actFits 17 = .ok (.aload_n 0, 1) := by decide +kernel
theorem dX3_actFits_18 : decode cX3_actFits 18 = .ok (.getfield 15, 3) := by decide +kernel
theorem dX3_actFits_21 : decode cX3_actFits 21 = .ok (.aload_n 0, 1) := by decide +kernel
theorem dX3_actFits_22 : decode cX3_actFits 22 = .ok (.iload_n 1, 1) := by decide +kernel
theorem dX3_actFits_23 : decode cX3_actFits 23 = .ok (.iload_n 2, 1) := by decide +kernel
theorem dX3_actFits_24 : decode cX3_actFits 24 = .ok (.iconst 1, 1) := by decide +kernel
theorem dX3_actFits_25 : decode cX3_actFits 25 = .ok (.isub, 1) := by decide +kernel
theorem dX3_actFits_26 : decode cX3_actFits 26 = .ok (.invokevirtual 48, 3) := by decide +kernel
theorem dX3_actFits_29 : decode cX3_actFits 29 = .ok (.iconst 0, 1) := by decide +kernel
theorem dX3_actFits_30 : decode cX3_actFits 30 = .ok (.iadd, 1) := by decide +kernel
theorem dX3_actFits_31 : decode cX3_actFits 31 = .ok (.iaload, 1) := by decide +kernel
theorem dX3_actFits_32 : decode cX3_actFits 32 = .ok (.iconst 1, 1) := by decide +kernel
theorem dX3_actFits_33 : decode cX3_actFits 33 = .ok (.iadd, 1) := by decide +kernel
theorem dX3_actFits_34 : decode cX3_actFits 34 = .ok (.istore 5, 2) := by decide +kernel
theorem dX3_actFits_36 : decode cX3_actFits 36 = .ok (.iload 4, 2) := by decide +kernel
theorem dX3_actFits_38 : decode cX3_actFits 38 = .ok (.iload 5, 2) := by decide +kernel
theorem dX3_actFits_40 : decode cX3_actFits 40 = .ok (.if_icmp .lt 17, 3) := by decide +kernel
theorem dX3_actFits_43 : decode cX3_actFits 43 = .ok (.iload 4, 2) := by decide +kernel
theorem dX3_actFits_45 : decode cX3_actFits 45 = .ok (.getstatic 51, 3) := by decide +kernel
theorem dX3_actFits_48 : decode cX3_actFits 48 = .ok (.iload_n 3, 1) := by decide +kernel
theorem dX3_actFits_49 : decode cX3_actFits 49 = .ok (.iaload, 1) := by decide +kernel
theorem dX3_actFits_50 : decode cX3_actFits 50 = .ok (.if_icmp .gt 7, 3) := by decide +kernel
theorem dX3_actFits_53 : decode cX3_actFits 53 = .ok (.iconst 1, 1) := by decide +kernel
theorem dX3_actFits_54 : decode cX3_actFits 54 = .ok (.goto 4, 3) := by decide +kernel
theorem dX3_actFits_57 : decode cX3_actFits 57 = .ok (.iconst 0, 1) := by decide +kernel
theorem dX3_actFits_58 : decode cX3_actFits 58 = .ok (.ireturn, 1) := by decide +kernel
theorem dX3_workFits_0 : decode cX3_workFits 0 = .ok (.aload_n 0, 1) := by decide +kernel
theorem dX3_workFits_1 : decode cX3_workFits 1 = .ok (.iload_n 1, 1) := by decide +kernel
theorem dX3_workFits_2 : decode cX3_workFits 2 = .ok (.iconst 2, 1) := by decide +kernel
theorem dX3_workFits_3 : decode cX3_workFits 3 = .ok (.invokevirtual 44, 3) := by decide +kernel
theorem dX3_workFits_6 : decode cX3_workFits 6 = .ok (.istore 4, 2) := by decide +kernel
theorem dX3_workFits_8 : decode cX3_workFits 8 = .ok (.aload_n 0, 1) := by decide +kernel
theorem dX3_workFits_9 : decode cX3_workFits 9 = .ok (.iload_n 1, 1) := by decide +kernel
theorem dX3_workFits_10 : decode cX3_workFits 10 = .ok (.iconst 3, 1) := by decide +kernel
theorem dX3_workFits_11 : decode cX3_workFits 11 = .ok (.invokevirtual 44, 3) := by decide +kernel
theorem dX3_workFits_14 : decode cX3_workFits 14 = .ok (.istore 5, 2) := by decide +kernel
theorem dX3_workFits_16 : decode cX3_workFits 16 = .ok (.iload_n 2, 1) := by decide +kernel
theorem dX3_workFits_17 : decode cX3_workFits 17 = .ok (.tableswitch 127 1 4 #[31, 37, 68, 91], 31) := by decide +kernel
theorem dX3_workFits_48 : decode cX3_workFits 48 = .ok (.aload_n 0, 1) := by decide +kernel
theorem dX3_workFits_49 : decode cX3_workFits 49 = .ok (.iload_n 3, 1) := by decide +kernel
theorem dX3_workFits_50 : decode cX3_workFits 50 = .ok (.invokevirtual 40, 3) := by decide +kernel
theorem dX3_workFits_53 : decode cX3_workFits 53 = .ok (.ireturn, 1) := by decide +kernel
theorem dX3_workFits_54 : decode cX3_workFits 54 = .ok (.iload_n 3, 1) := by decide +kernel
theorem dX3_workFits_55 : decode cX3_workFits 55 = .ok (.sipush 1500, 3) := by decide +kernel
theorem dX3_workFits_58 : decode cX3_workFits 58 = .ok (.if_icmp .lt 25, 3) := by decide +kernel
theorem dX3_workFits_61 : decode cX3_workFits 61 = .ok (.iload_n 3, 1) := by decide +kernel
theorem dX3_workFits_62 : decode cX3_workFits 62 = .ok (.sipush 2099, 3) := by decide +kernel
theorem dX3_workFits_65 : decode cX3_workFits 65 = .ok (.if_icmp .gt 18, 3) := by decide +kernel
theorem dX3_workFits_68 : decode cX3_workFits 68 = .ok (.iload 5, 2) := by decide +kernel
theorem dX3_workFits_70 : decode cX3_workFits 70 = .ok (.ifCond .eq 9, 3) := by decide +kernel
theorem dX3_workFits_73 : decode cX3_workFits 73 = .ok (.iload_n 3, 1) := by decide +kernel
theorem dX3_workFits_74 : decode cX3_workFits 74 = .ok (.iload 5, 2) := by decide +kernel
theorem dX3_workFits_76 : decode cX3_workFits 76 = .ok (.if_icmp .gt 7, 3) := by decide +kernel
theorem dX3_workFits_79 : decode cX3_workFits 79 = .ok (.iconst 1, 1) := by decide +kernel
theorem dX3_workFits_80 : decode cX3_workFits 80 = .ok (.goto 4, 3) := by decide +kernel
theorem dX3_workFits_83 : decode cX3_workFits 83 = .ok (.iconst 0, 1) := by decide +kernel
theorem dX3_workFits_84 : decode cX3_workFits 84 = .ok (.ireturn, 1) := by decide +kernel
theorem dX3_workFits_85 : decode cX3_workFits 85 = .ok (.iload_n 3, 1) := by decide +kernel
theorem dX3_workFits_86 : decode cX3_workFits 86 = .ok (.ifCond .eq 16, 3) := by decide +kernel
theorem dX3_workFits_89 : decode cX3_workFits 89 = .ok (.iload_n 3, 1) := by decide +kernel
theorem dX3_workFits_90 : decode cX3_workFits 90 = .ok (.iload 4, 2) := by decide +kernel
theorem dX3_workFits_92 : decode cX3_workFits 92 = .ok (.if_icmp .lt 14, 3) := by decide +kernel
theorem dX3_workFits_95 : decode cX3_workFits 95 = .ok (.iload_n 3, 1) := by decide +kernel
theorem dX3_workFits_96 : decode cX3_workFits 96 = .ok (.sipush 2099, 3) := by decide +kernel
theorem dX3_workFits_99 : decode cX3_workFits 99 = .ok (.if_icmp .gt 7, 3) := by decide +kernel
theorem dX3_workFits_102 : decode cX3_workFits 102 = .ok (.iconst 1, 1) := by decide +kernel
theorem dX3_workFits_103 : decode cX3_workFits 103 = .ok (.goto 4, 3) := by decide +kernel
theorem dX3_workFits_106 : decode cX3_workFits 106 = .ok (.iconst 0, 1) := by decide +kernel
theorem dX3_workFits_107 : decode cX3_workFits 107 = .ok (.ireturn, 1) := by decide +kernel
theorem dX3_workFits_108 : decode cX3_workFits 108 = .ok (.iload_n 3, 1) := by decide +kernel
theorem dX3_workFits_109 : decode cX3_workFits 109 = .ok (.ifCond .lt 33, 3) := by decide +kernel
theorem dX3_workFits_112 : decode cX3_workFits 112 = .ok (.iload_n 3, 1) := by decide +kernel
theorem dX3_workFits_113 : decode cX3_workFits 113 = .ok (.iconst 1, 1) := by decide +kernel
theorem dX3_workFits_114 : decode cX3_workFits 114 = .ok (.aload_n 0, 1) := by decide +kernel
theorem dX3_workFits_115 : decode cX3_workFits 115 = .ok (.getfield 28, 3) := by decide +kernel
theorem dX3_workFits_118 : decode cX3_workFits 118 = .ok (.ishl, 1) := by decide +kernel
theorem dX3_workFits_119 : decode cX3_workFits 119 = .ok (.if_icmp .ge 23, 3) := by decide +kernel
theorem dX3_workFits_122 : decode cX3_workFits 122 = .ok (.iload_n 3, 1) := by decide +kernel
theorem dX3_workFits_123 : decode cX3_workFits 123 = .ok (.ifCond .ne 15, 3) := by decide +kernel
theorem dX3_workFits_126 : decode cX3_workFits 126 = .ok (.aload_n 0, 1) := by decide +kernel
theorem dX3_workFits_127 : decode cX3_workFits 127 = .ok (.iload_n 1, 1) := by decide +kernel
theorem dX3_workFits_128 : decode cX3_workFits 128 = .ok (.iconst 0, 1) := by decide +kernel
theorem dX3_workFits_129 : decode cX3_workFits 129 = .ok (.invokevirtual 44, 3) := by decide +kernel
theorem dX3_workFits_132 : decode cX3_workFits 132 = .ok (.invokestatic 54, 3) := by decide +kernel
theorem dX3_workFits_135 : decode cX3_workFits 135 = .ok (.ifCond .ne 7, 3) := by decide +kernel
theorem dX3_workFits_138 : decode cX3_workFits 138 = .ok (.iconst 1, 1) := by decide +kernel
theorem dX3_workFits_139 : decode cX3_workFits 139 = .ok (.goto 4, 3) := by decide +kernel
theorem dX3_workFits_142 : decode cX3_workFits 142 = .ok (.iconst 0, 1) := by decide +kernel
theorem dX3_workFits_143 : decode cX3_workFits 143 = .ok (.ireturn, 1) := by decide +kernel
theorem dX3_workFits_144 : decode cX3_workFits 144 = .ok (.iconst 0, 1) := by decide +kernel
theorem dX3_workFits_145 : decode cX3_workFits 145 = .ok (.ireturn, 1) := by decide +kernel
theorem dX3_addActLikeLast_0 : decode cX3_addActLikeLast 0 = .ok (.aload_n 0, 1) := by decide +kernel
theorem dX3_addActLikeLast_1 : decode cX3_addActLikeLast 1 = .ok (.getfield 9, 3) := by decide +kernel
theorem dX3_addActLikeLast_4 : decode cX3_addActLikeLast 4 = .ok (.iload_n 1, 1) := by decide +kernel
theorem dX3_addActLikeLast_5 : decode cX3_addActLikeLast 5 = .ok (.iaload, 1) := by decide +kernel
theorem dX3_addActLikeLast_6 : decode cX3_addActLikeLast 6 = .ok (.istore_n 2, 1) := by decide +kernel
theorem dX3_addActLikeLast_7 : decode cX3_addActLikeLast 7 = .ok (.aload_n 0, 1) := by decide +kernel
theorem dX3_addActLikeLast_8 : decode cX3_addActLikeLast 8 = .ok (.getfield 15, 3) := by decide +kernel
theorem dX3_addActLikeLast_11 : decode cX3_addActLikeLast 11 = .ok (.aload_n 0, 1) := by decide +kernel
theorem dX3_addActLikeLast_12 : decode cX3_addActLikeLast 12 = .ok (.iload_n 1, 1) := by decide +kernel
theorem dX3_addActLikeLast_13 : decode cX3_addActLikeLast 13 = .ok (.iload_n 2, 1) := by decide +kernel
theorem dX3_addActLikeLast_14 : decode cX3_addActLikeLast 14 = .ok (.iconst 1, 1) := by decide +kernel
theorem dX3_addActLikeLast_15 : decode cX3_addActLikeLast 15 = .ok (.isub, 1) := by decide +kernel
theorem dX3_addActLikeLast_16 : decode cX3_addActLikeLast 16 = .ok (.invokevirtual 48, 3) := by decide +kernel
theorem dX3_addActLikeLast_19 : decode cX3_addActLikeLast 19 = .ok (.aload_n 0, 1) := by decide +kernel
theorem dX3_addActLikeLast_20 : decode cX3_addActLikeLast 20 = .ok (.getfield 15, 3) := by decide +kernel
theorem dX3_addActLikeLast_23 : decode cX3_addActLikeLast 23 = .ok (.aload_n 0, 1) := by decide +kernel
theorem dX3_addActLikeLast_24 : decode cX3_addActLikeLast 24 = .ok (.iload_n 1, 1) := by decide +kernel
theorem dX3_addActLikeLast_25 : decode cX3_addActLikeLast 25 = .ok (.iload_n 2, 1) := by decide +kernel
theorem dX3_addActLikeLast_26 : decode cX3_addActLikeLast 26 = .ok (.invokevirtual 48, 3) := by decide +kernel
theorem dX3_addActLikeLast_29 : decode cX3_addActLikeLast 29 = .ok (.bipush 6, 2) := by decide +kernel
theorem dX3_addActLikeLast_31 : decode cX3_addActLikeLast 31 = .ok (.invokestatic 34, 3) := by decide +kernel
theorem dX3_addActLikeLast_34 : decode cX3_addActLikeLast 34 = .ok (.aload_n 0, 1) := by decide +kernel
theorem dX3_addActLikeLast_35 : decode cX3_addActLikeLast 35 = .ok (.getfield 9, 3) := by decide +kernel
theorem dX3_addActLikeLast_38 : decode cX3_addActLikeLast 38 = .ok (.iload_n 1, 1) := by decide +kernel
theorem dX3_addActLikeLast_39 : decode cX3_addActLikeLast 39 = .ok (.dup2, 1) := by decide +kernel
theorem dX3_addActLikeLast_40 : decode cX3_addActLikeLast 40 = .ok (.iaload, 1) := by decide +kernel
theorem dX3_addActLikeLast_41 : decode cX3_addActLikeLast 41 = .ok (.iconst 1, 1) := by decide +kernel
theorem dX3_addActLikeLast_42 : decode cX3_addActLikeLast 42 = .ok (.iadd, 1) := by decide +kernel
theorem dX3_addActLikeLast_43 : decode cX3_addActLikeLast 43 = .ok (.iastore, 1) := by decide +kernel
theorem dX3_addActLikeLast_44 : decode cX3_addActLikeLast 44 = .ok (.return_, 1) := by decide +kernel
theorem dX3_actInForce_0 : decode cX3_actInForce 0 = .ok (.aload_n 0, 1) := by decide +kernel
theorem dX3_actInForce_1 : decode cX3_actInForce 1 = .ok (.getfield 9, 3) := by decide +kernel
theorem dX3_actInForce_4 : decode cX3_actInForce 4 = .ok (.iload_n 1, 1) := by decide +kernel
theorem dX3_actInForce_5 : decode cX3_actInForce 5 = .ok (.iaload, 1) := by decide +kernel
theorem dX3_actInForce_6 : decode cX3_actInForce 6 = .ok (.iconst 1, 1) := by decide +kernel
theorem dX3_actInForce_7 : decode cX3_actInForce 7 = .ok (.isub, 1) := by decide +kernel
theorem dX3_actInForce_8 : decode cX3_actInForce 8 = .ok (.istore_n 3, 1) := by decide +kernel
theorem dX3_actInForce_9 : decode cX3_actInForce 9 = .ok (.iload_n 3, 1) := by decide +kernel
theorem dX3_actInForce_10 : decode cX3_actInForce 10 = .ok (.ifCond .le 28, 3) := by decide +kernel
theorem dX3_actInForce_13 : decode cX3_actInForce 13 = .ok (.aload_n 0, 1) := by decide +kernel
theorem dX3_actInForce_14 : decode cX3_actInForce 14 = .ok (.getfield 15, 3) := by decide +kernel
theorem dX3_actInForce_17 : decode cX3_actInForce 17 = .ok (.aload_n 0, 1) := by decide +kernel
theorem dX3_actInForce_18 : decode cX3_actInForce 18 = .ok (.iload_n 1, 1) := by decide +kernel
theorem dX3_actInForce_19 : decode cX3_actInForce 19 = .ok (.iload_n 3, 1) := by decide +kernel
theorem dX3_actInForce_20 : decode cX3_actInForce 20 = .ok (.invokevirtual 48, 3) := by decide +kernel
theorem dX3_actInForce_23 : decode cX3_actInForce 23 = .ok (.iconst 0, 1) := by decide +kernel
theorem dX3_actInForce_24 : decode cX3_actInForce 24 = .ok (.iadd, 1) := by decide +kernel
theorem dX3_actInForce_25 : decode cX3_actInForce 25 = .ok (.iaload, 1) := by decide +kernel
theorem dX3_actInForce_26 : decode cX3_actInForce 26 = .ok (.iload_n 2, 1) := by decide +kernel
theorem dX3_actInForce_27 : decode cX3_actInForce 27 = .ok (.if_icmp .gt 5, 3) := by decide +kernel
theorem dX3_actInForce_30 : decode cX3_actInForce 30 = .ok (.iload_n 3, 1) := by decide +kernel
theorem dX3_actInForce_31 : decode cX3_actInForce 31 = .ok (.ireturn, 1) := by decide +kernel
theorem dX3_actInForce_32 : decode cX3_actInForce 32 = .ok (.iinc 3 (-1), 3) := by decide +kernel
theorem dX3_actInForce_35 : decode cX3_actInForce 35 = .ok (.goto (-26), 3) := by decide +kernel
theorem dX3_actInForce_38 : decode cX3_actInForce 38 = .ok (.iconst 0, 1) := by decide +kernel
theorem dX3_actInForce_39 : decode cX3_actInForce 39 = .ok (.ireturn, 1) := by decide +kernel
theorem dX3_everCompares_0 : decode cX3_everCompares 0 = .ok (.iconst 0, 1) := by decide +kernel
theorem dX3_everCompares_1 : decode cX3_everCompares 1 = .ok (.istore_n 2, 1) := by decide +kernel
theorem dX3_everCompares_2 : decode cX3_everCompares 2 = .ok (.iload_n 2, 1) := by decide +kernel
theorem dX3_everCompares_3 : decode cX3_everCompares 3 = .ok (.aload_n 0, 1) := by decide +kernel
theorem dX3_everCompares_4 : decode cX3_everCompares 4 = .ok (.getfield 9, 3) := by decide +kernel
theorem dX3_everCompares_7 : decode cX3_everCompares 7 = .ok (.iload_n 1, 1) := by decide +kernel
theorem dX3_everCompares_8 : decode cX3_everCompares 8 = .ok (.iaload, 1) := by decide +kernel
theorem dX3_everCompares_9 : decode cX3_everCompares 9 = .ok (.if_icmp .ge 30, 3) := by decide +kernel
theorem dX3_everCompares_12 : decode cX3_everCompares 12 = .ok (.aload_n 0, 1) := by decide +kernel
theorem dX3_everCompares_13 : decode cX3_everCompares 13 = .ok (.getfield 15, 3) := by decide +kernel
theorem dX3_everCompares_16 : decode cX3_everCompares 16 = .ok (.aload_n 0, 1) := by decide +kernel
theorem dX3_everCompares_17 : decode cX3_everCompares 17 = .ok (.iload_n 1, 1) := by decide +kernel
theorem dX3_everCompares_18 : decode cX3_everCompares 18 = .ok (.iload_n 2, 1) := by decide +kernel
theorem dX3_everCompares_19 : decode cX3_everCompares 19 = .ok (.invokevirtual 48, 3) := by decide +kernel
theorem dX3_everCompares_22 : decode cX3_everCompares 22 = .ok (.iconst 5, 1) := by decide +kernel
theorem dX3_everCompares_23 : decode cX3_everCompares 23 = .ok (.iadd, 1) := by decide +kernel
theorem dX3_everCompares_24 : decode cX3_everCompares 24 = .ok (.iaload, 1) := by decide +kernel
theorem dX3_everCompares_25 : decode cX3_everCompares 25 = .ok (.bipush 8, 2) := by decide +kernel
theorem dX3_everCompares_27 : decode cX3_everCompares 27 = .ok (.iand, 1) := by decide +kernel
theorem dX3_everCompares_28 : decode cX3_everCompares 28 = .ok (.ifCond .eq 5, 3) := by decide +kernel
theorem dX3_everCompares_31 : decode cX3_everCompares 31 = .ok (.iconst 1, 1) := by decide +kernel
theorem dX3_everCompares_32 : decode cX3_everCompares 32 = .ok (.ireturn, 1) := by decide +kernel
theorem dX3_everCompares_33 : decode cX3_everCompares 33 = .ok (.iinc 2 1, 3) := by decide +kernel
theorem dX3_everCompares_36 : decode cX3_everCompares 36 = .ok (.goto (-34), 3) := by decide +kernel
theorem dX3_everCompares_39 : decode cX3_everCompares 39 = .ok (.iconst 0, 1) := by decide +kernel
theorem dX3_everCompares_40 : decode cX3_everCompares 40 = .ok (.ireturn, 1) := by decide +kernel
theorem dX3_doubtOf_0 : decode cX3_doubtOf 0 = .ok (.iconst 0, 1) := by decide +kernel
theorem dX3_doubtOf_1 : decode cX3_doubtOf 1 = .ok (.istore_n 2, 1) := by decide +kernel
theorem dX3_doubtOf_2 : decode cX3_doubtOf 2 = .ok (.iconst 0, 1) := by decide +kernel
theorem dX3_doubtOf_3 : decode cX3_doubtOf 3 = .ok (.istore_n 3, 1) := by decide +kernel
theorem dX3_doubtOf_4 : decode cX3_doubtOf 4 = .ok (.iload_n 3, 1) := by decide +kernel
theorem dX3_doubtOf_5 : decode cX3_doubtOf 5 = .ok (.aload_n 0, 1) := by decide +kernel
theorem dX3_doubtOf_6 : decode cX3_doubtOf 6 = .ok (.getfield 28, 3) := by decide +kernel
theorem dX3_doubtOf_9 : decode cX3_doubtOf 9 = .ok (.if_icmp .ge 47, 3) := by decide +kernel
theorem dX3_doubtOf_12 : decode cX3_doubtOf 12 = .ok (.aload_n 0, 1) := by decide +kernel
theorem dX3_doubtOf_13 : decode cX3_doubtOf 13 = .ok (.iload_n 1, 1) := by decide +kernel
theorem dX3_doubtOf_14 : decode cX3_doubtOf 14 = .ok (.iload_n 3, 1) := by decide +kernel
theorem dX3_doubtOf_15 : decode cX3_doubtOf 15 = .ok (.invokevirtual 57, 3) := by decide +kernel
theorem dX3_doubtOf_18 : decode cX3_doubtOf 18 = .ok (.ifCond .eq 32, 3) := by decide +kernel
theorem dX3_doubtOf_21 : decode cX3_doubtOf 21 = .ok (.iload_n 3, 1) := by decide +kernel
theorem dX3_doubtOf_22 : decode cX3_doubtOf 22 = .ok (.iconst 2, 1) := by decide +kernel
theorem dX3_doubtOf_23 : decode cX3_doubtOf 23 = .ok (.imul, 1) := by decide +kernel
theorem dX3_doubtOf_24 : decode cX3_doubtOf 24 = .ok (.istore 4, 2) := by decide +kernel
theorem dX3_doubtOf_26 : decode cX3_doubtOf 26 = .ok (.iload_n 2, 1) := by decide +kernel
theorem dX3_doubtOf_27 : decode cX3_doubtOf 27 = .ok (.aload_n 0, 1) := by decide +kernel
theorem dX3_doubtOf_28 : decode cX3_doubtOf 28 = .ok (.getfield 18, 3) := by decide +kernel
theorem dX3_doubtOf_31 : decode cX3_doubtOf 31 = .ok (.iload 4, 2) := by decide +kernel
theorem dX3_doubtOf_33 : decode cX3_doubtOf 33 = .ok (.iconst 1, 1) := by decide +kernel
theorem dX3_doubtOf_34 : decode cX3_doubtOf 34 = .ok (.iadd, 1) := by decide +kernel
theorem dX3_doubtOf_35 : decode cX3_doubtOf 35 = .ok (.iaload, 1) := by decide +kernel
theorem dX3_doubtOf_36 : decode cX3_doubtOf 36 = .ok (.aload_n 0, 1) := by decide +kernel
theorem dX3_doubtOf_37 : decode cX3_doubtOf 37 = .ok (.getfield 18, 3) := by decide +kernel
theorem dX3_doubtOf_40 : decode cX3_doubtOf 40 = .ok (.iload 4, 2) := by decide +kernel
theorem dX3_doubtOf_42 : decode cX3_doubtOf 42 = .ok (.iconst 0, 1) := by decide +kernel
theorem dX3_doubtOf_43 : decode cX3_doubtOf 43 = .ok (.iadd, 1) := by decide +kernel
theorem dX3_doubtOf_44 : decode cX3_doubtOf 44 = .ok (.iaload, 1) := by decide +kernel
theorem dX3_doubtOf_45 : decode cX3_doubtOf 45 = .ok (.isub, 1) := by decide +kernel
theorem dX3_doubtOf_46 : decode cX3_doubtOf 46 = .ok (.invokestatic 61, 3) := by decide +kernel
theorem dX3_doubtOf_49 : decode cX3_doubtOf 49 = .ok (.istore_n 2, 1) := by decide +kernel
theorem dX3_doubtOf_50 : decode cX3_doubtOf 50 = .ok (.iinc 3 1, 3) := by decide +kernel
theorem dX3_doubtOf_53 : decode cX3_doubtOf 53 = .ok (.goto (-49), 3) := by decide +kernel
theorem dX3_doubtOf_56 : decode cX3_doubtOf 56 = .ok (.iload_n 2, 1) := by decide +kernel
theorem dX3_doubtOf_57 : decode cX3_doubtOf 57 = .ok (.bipush 60, 2) := by decide +kernel
theorem dX3_doubtOf_59 : decode cX3_doubtOf 59 = .ok (.invokestatic 66, 3) := by decide +kernel
theorem dX3_doubtOf_62 : decode cX3_doubtOf 62 = .ok (.ireturn, 1) := by decide +kernel
theorem dX3_latestDeath_0 : decode cX3_latestDeath 0 = .ok (.iconst 0, 1) := by decide +kernel
theorem dX3_latestDeath_1 : decode cX3_latestDeath 1 = .ok (.istore_n 3, 1) := by decide +kernel
theorem dX3_latestDeath_2 : decode cX3_latestDeath 2 = .ok (.iconst 0, 1) := by decide +kernel
theorem dX3_latestDeath_3 : decode cX3_latestDeath 3 = .ok (.istore 4, 2) := by decide +kernel
theorem dX3_latestDeath_5 : decode cX3_latestDeath 5 = .ok (.iload 4, 2) := by decide +kernel
theorem dX3_latestDeath_7 : decode cX3_latestDeath 7 = .ok (.aload_n 0, 1) := by decide +kernel
theorem dX3_latestDeath_8 : decode cX3_latestDeath 8 = .ok (.getfield 28, 3) := by decide +kernel
theorem dX3_latestDeath_11 : decode cX3_latestDeath 11 = .ok (.if_icmp .ge 63, 3) := by decide +kernel
theorem dX3_latestDeath_14 : decode cX3_latestDeath 14 = .ok (.iload_n 1, 1) := by decide +kernel
theorem dX3_latestDeath_15 : decode cX3_latestDeath 15 = .ok (.iload 4, 2) := by decide +kernel
theorem dX3_latestDeath_17 : decode cX3_latestDeath 17 = .ok (.ishr, 1) := by decide +kernel
theorem dX3_latestDeath_18 : decode cX3_latestDeath 18 = .ok (.iconst 1, 1) := by decide +kernel
theorem dX3_latestDeath_19 : decode cX3_latestDeath 19 = .ok (.iand, 1) := by decide +kernel
theorem dX3_latestDeath_20 : decode cX3_latestDeath 20 = .ok (.ifCond .eq 48, 3) := by decide +kernel
theorem dX3_latestDeath_23 : decode cX3_latestDeath 23 = .ok (.aload_n 0, 1) := by decide +kernel
theorem dX3_latestDeath_24 : decode cX3_latestDeath 24 = .ok (.getfield 18, 3) := by decide +kernel
theorem dX3_latestDeath_27 : decode cX3_latestDeath 27 = .ok (.iload 4, 2) := by decide +kernel
theorem dX3_latestDeath_29 : decode cX3_latestDeath 29 = .ok (.iconst 2, 1) := by decide +kernel
theorem dX3_latestDeath_30 : decode cX3_latestDeath 30 = .ok (.imul, 1) := by decide +kernel
theorem dX3_latestDeath_31 : decode cX3_latestDeath 31 = .ok (.iconst 0, 1) := by decide +kernel
theorem dX3_latestDeath_32 : decode cX3_latestDeath 32 = .ok (.iadd, 1) := by decide +kernel
theorem dX3_latestDeath_33 : decode cX3_latestDeath 33 = .ok (.iaload, 1) := by decide +kernel
theorem dX3_latestDeath_34 : decode cX3_latestDeath 34 = .ok (.istore 5, 2) := by decide +kernel
theorem dX3_latestDeath_36 : decode cX3_latestDeath 36 = .ok (.iload 5, 2) := by decide +kernel
theorem dX3_latestDeath_38 : decode cX3_latestDeath 38 = .ok (.ifCond .ne 7, 3) := by decide +kernel
theorem dX3_latestDeath_41 : decode cX3_latestDeath 41 = .ok (.sipush 9999, 3) := by decide +kernel
theorem dX3_latestDeath_44 : decode cX3_latestDeath 44 = .ok (.ireturn, 1) := by decide +kernel
theorem dX3_latestDeath_45 : decode cX3_latestDeath 45 = .ok (.iload_n 3, 1) := by decide +kernel
theorem dX3_latestDeath_46 : decode cX3_latestDeath 46 = .ok (.iload 5, 2) := by decide +kernel
theorem dX3_latestDeath_48 : decode cX3_latestDeath 48 = .ok (.iload_n 2, 1) := by decide +kernel
theorem dX3_latestDeath_49 : decode cX3_latestDeath 49 = .ok (.iadd, 1) := by decide +kernel
theorem dX3_latestDeath_50 : decode cX3_latestDeath 50 = .ok (.aload_n 0, 1) := by decide +kernel
theorem dX3_latestDeath_51 : decode cX3_latestDeath 51 = .ok (.getfield 18, 3) := by decide +kernel
theorem dX3_latestDeath_54 : decode cX3_latestDeath 54 = .ok (.iload 4, 2) := by decide +kernel
theorem dX3_latestDeath_56 : decode cX3_latestDeath 56 = .ok (.iconst 2, 1) := by decide +kernel
theorem dX3_latestDeath_57 : decode cX3_latestDeath 57 = .ok (.imul, 1) := by decide +kernel
theorem dX3_latestDeath_58 : decode cX3_latestDeath 58 = .ok (.iconst 1, 1) := by decide +kernel
theorem dX3_latestDeath_59 : decode cX3_latestDeath 59 = .ok (.iadd, 1) := by decide +kernel
theorem dX3_latestDeath_60 : decode cX3_latestDeath 60 = .ok (.iaload, 1) := by decide +kernel
theorem dX3_latestDeath_61 : decode cX3_latestDeath 61 = .ok (.invokestatic 66, 3) := by decide +kernel
theorem dX3_latestDeath_64 : decode cX3_latestDeath 64 = .ok (.invokestatic 61, 3) := by decide +kernel
theorem dX3_latestDeath_67 : decode cX3_latestDeath 67 = .ok (.istore_n 3, 1) := by decide +kernel
theorem dX3_latestDeath_68 : decode cX3_latestDeath 68 = .ok (.iinc 4 1, 3) := by decide +kernel
theorem dX3_latestDeath_71 : decode cX3_latestDeath 71 = .ok (.goto (-66), 3) := by decide +kernel
theorem dX3_latestDeath_74 : decode cX3_latestDeath 74 = .ok (.iload_n 3, 1) := by decide +kernel
theorem dX3_latestDeath_75 : decode cX3_latestDeath 75 = .ok (.ireturn, 1) := by decide +kernel
theorem dX4_init_0 : decode cX4_init 0 = .ok (.aload_n 0, 1) := by decide +kernel
theorem dX4_init_1 : decode cX4_init 1 = .ok (.invokespecial 3, 3) := by decide +kernel
theorem dX4_init_4 : decode cX4_init 4 = .ok (.aload_n 0, 1) := by decide +kernel
theorem dX4_init_5 : decode cX4_init 5 = .ok (.sipush 250, 3) := by decide +kernel
theorem dX4_init_8 : decode cX4_init 8 = .ok (.newarray .int, 2) := by decide +kernel
theorem dX4_init_10 : decode cX4_init 10 = .ok (.putfield 9, 3) := by decide +kernel
theorem dX4_init_13 : decode cX4_init 13 = .ok (.return_, 1) := by decide +kernel
theorem dX4_takes_0 : decode cX4_takes 0 = .ok (.aload_n 0, 1) := by decide +kernel
theorem dX4_takes_1 : decode cX4_takes 1 = .ok (.getfield 15, 3) := by decide +kernel
theorem dX4_takes_4 : decode cX4_takes 4 = .ok (.sipush 250, 3) := by decide +kernel
theorem dX4_takes_7 : decode cX4_takes 7 = .ok (.if_icmp .lt 5, 3) := by decide +kernel
theorem dX4_takes_10 : decode cX4_takes 10 = .ok (.iconst 0, 1) := by decide +kernel
theorem dX4_takes_11 : decode cX4_takes 11 = .ok (.ireturn, 1) := by decide +kernel
theorem dX4_takes_12 : decode cX4_takes 12 = .ok (.aload_n 0, 1) := by decide +kernel
theorem dX4_takes_13 : decode cX4_takes 13 = .ok (.getfield 9, 3) := by decide +kernel
theorem dX4_takes_16 : decode cX4_takes 16 = .ok (.aload_n 0, 1) := by decide +kernel
theorem dX4_takes_17 : decode cX4_takes 17 = .ok (.getfield 15, 3) := by decide +kernel
theorem dX4_takes_20 : decode cX4_takes 20 = .ok (.iload_n 1, 1) := by decide +kernel
theorem dX4_takes_21 : decode cX4_takes 21 = .ok (.iastore, 1) := by decide +kernel
theorem dX4_takes_22 : decode cX4_takes 22 = .ok (.aload_n 0, 1) := by decide +kernel
theorem dX4_takes_23 : decode cX4_takes 23 = .ok (.dup, 1) := by decide +kernel
theorem dX4_takes_24 : decode cX4_takes 24 = .ok (.getfield 15, 3) := by decide +kernel
theorem dX4_takes_27 : decode cX4_takes 27 = .ok (.iconst 1, 1) := by decide +kernel
theorem dX4_takes_28 : decode cX4_takes 28 = .ok (.iadd, 1) := by decide +kernel
theorem dX4_takes_29 : decode cX4_takes 29 = .ok (.putfield 15, 3) := by decide +kernel
theorem dX4_takes_32 : decode cX4_takes 32 = .ok (.iconst 1, 1) := by decide +kernel
theorem dX4_takes_33 : decode cX4_takes 33 = .ok (.ireturn, 1) := by decide +kernel
theorem dX4_begin_0 : decode cX4_begin 0 = .ok (.aload_n 0, 1) := by decide +kernel
theorem dX4_begin_1 : decode cX4_begin 1 = .ok (.iconst 0, 1) := by decide +kernel
theorem dX4_begin_2 : decode cX4_begin 2 = .ok (.putfield 19, 3) := by decide +kernel
theorem dX4_begin_5 : decode cX4_begin 5 = .ok (.aload_n 0, 1) := by decide +kernel
theorem dX4_begin_6 : decode cX4_begin 6 = .ok (.invokevirtual 22, 3) := by decide +kernel
theorem dX4_begin_9 : decode cX4_begin 9 = .ok (.return_, 1) := by decide +kernel
theorem dX4_step_0 : decode cX4_step 0 = .ok (.aload_n 0, 1) := by decide +kernel
theorem dX4_step_1 : decode cX4_step 1 = .ok (.aload_n 0, 1) := by decide +kernel
theorem dX4_step_2 : decode cX4_step 2 = .ok (.getfield 19, 3) := by decide +kernel
theorem dX4_step_5 : decode cX4_step 5 = .ok (.putfield 25, 3) := by decide +kernel
theorem dX4_step_8 : decode cX4_step 8 = .ok (.aload_n 0, 1) := by decide +kernel
theorem dX4_step_9 : decode cX4_step 9 = .ok (.iconst 0, 1) := by decide +kernel
theorem dX4_step_10 : decode cX4_step 10 = .ok (.putfield 28, 3) := by decide +kernel
theorem dX4_step_13 : decode cX4_step 13 = .ok (.aload_n 0, 1) := by decide +kernel
theorem dX4_step_14 : decode cX4_step 14 = .ok (.getfield 25, 3) := by decide +kernel
theorem dX4_step_17 : decode cX4_step 17 = .ok (.istore_n 1, 1) := by decide +kernel
theorem dX4_step_18 : decode cX4_step 18 = .ok (.iload_n 1, 1) := by decide +kernel
theorem dX4_step_19 : decode cX4_step 19 = .ok (.aload_n 0, 1) := by decide +kernel
theorem dX4_step_20 : decode cX4_step 20 = .ok (.getfield 15, 3) := by decide +kernel
theorem dX4_step_23 : decode cX4_step 23 = .ok (.if_icmp .ge 52, 3) := by decide +kernel
theorem dX4_step_26 : decode cX4_step 26 = .ok (.aload_n 0, 1) := by decide +kernel
theorem dX4_step_27 : decode cX4_step 27 = .ok (.getfield 9, 3) := by decide +kernel
theorem dX4_step_30 : decode cX4_step 30 = .ok (.iload_n 1, 1) := by decide +kernel
theorem dX4_step_31 : decode cX4_step 31 = .ok (.iaload, 1) := by decide +kernel
theorem dX4_step_32 : decode cX4_step 32 = .ok (.bipush 48, 2) := by decide +kernel
theorem dX4_step_34 : decode cX4_step 34 = .ok (.if_icmp .lt 41, 3) := by decide +kernel
theorem dX4_step_37 : decode cX4_step 37 = .ok (.aload_n 0, 1) := by decide +kernel
theorem dX4_step_38 : decode cX4_step 38 = .ok (.getfield 9, 3) := by decide +kernel
theorem dX4_step_41 : decode cX4_step 41 = .ok (.iload_n 1, 1) := by decide +kernel
theorem dX4_step_42 : decode cX4_step 42 = .ok (.iaload, 1) := by decide +kernel
theorem dX4_step_43 : decode cX4_step 43 = .ok (.bipush 57, 2) := by decide +kernel
theorem dX4_step_45 : decode cX4_step 45 = .ok (.if_icmp .gt 30, 3) := by decide +kernel
theorem dX4_step_48 : decode cX4_step 48 = .ok (.aload_n 0, 1) := by decide +kernel
theorem dX4_step_49 : decode cX4_step 49 = .ok (.aload_n 0, 1) := by decide +kernel
theorem dX4_step_50 : decode cX4_step 50 = .ok (.getfield 28, 3) := by decide +kernel
theorem dX4_step_53 : decode cX4_step 53 = .ok (.bipush 10, 2) := by decide +kernel
theorem dX4_step_55 : decode cX4_step 55 = .ok (.imul, 1) := by decide +kernel
theorem dX4_step_56 : decode cX4_step 56 = .ok (.aload_n 0, 1) := by decide +kernel
theorem dX4_step_57 : decode cX4_step 57 = .ok (.getfield 9, 3) := by decide +kernel
theorem dX4_step_60 : decode cX4_step 60 = .ok (.iload_n 1, 1) := by decide +kernel
theorem dX4_step_61 : decode cX4_step 61 = .ok (.iaload, 1) := by decide +kernel
theorem dX4_step_62 : decode cX4_step 62 = .ok (.iadd, 1) := by decide +kernel
theorem dX4_step_63 : decode cX4_step 63 = .ok (.bipush 48, 2) := by decide +kernel
theorem dX4_step_65 : decode cX4_step 65 = .ok (.isub, 1) := by decide +kernel
theorem dX4_step_66 : decode cX4_step 66 = .ok (.putfield 28, 3) := by decide +kernel
theorem dX4_step_69 : decode cX4_step 69 = .ok (.iinc 1 1, 3) := by decide +kernel
theorem dX4_step_72 : decode cX4_step 72 = .ok (.goto (-54), 3) := by decide +kernel
theorem dX4_step_75 : decode cX4_step 75 = .ok (.iload_n 1, 1) := by decide +kernel
theorem dX4_step_76 : decode cX4_step 76 = .ok (.aload_n 0, 1) := by decide +kernel
theorem dX4_step_77 : decode cX4_step 77 = .ok (.getfield 25, 3) := by decide +kernel
theorem dX4_step_80 : decode cX4_step 80 = .ok (.if_icmp .le 30, 3) := by decide +kernel
theorem dX4_step_83 : decode cX4_step 83 = .ok (.aload_n 0, 1) := by decide +kernel
theorem dX4_step_84 : decode cX4_step 84 = .ok (.iload_n 1, 1) := by decide +kernel
theorem dX4_step_85 : decode cX4_step 85 = .ok (.aload_n 0, 1) := by decide +kernel
theorem dX4_step_86 : decode cX4_step 86 = .ok (.getfield 25, 3) := by decide +kernel
theorem dX4_step_89 : decode cX4_step 89 = .ok (.isub, 1) := by decide +kernel
theorem dX4_step_90 : decode cX4_step 90 = .ok (.iconst 4, 1) := by decide +kernel
theorem dX4_step_91 : decode cX4_step 91 = .ok (.if_icmp .gt 7, 3) := by decide +kernel
theorem dX4_step_94 : decode cX4_step 94 = .ok (.iconst 1, 1) := by decide +kernel
theorem dX4_step_95 : decode cX4_step 95 = .ok (.goto 4, 3) := by decide +kernel
theorem dX4_step_98 : decode cX4_step 98 = .ok (.iconst 4, 1) := by decide +kernel
theorem dX4_step_99 : decode cX4_step 99 = .ok (.putfield 31, 3) := by decide +kernel
theorem dX4_step_102 : decode cX4_step 102 = .ok (.aload_n 0, 1) := by decide +kernel
theorem dX4_step_103 : decode cX4_step 103 = .ok (.iload_n 1, 1) := by decide +kernel
theorem dX4_step_104 : decode cX4_step 104 = .ok (.putfield 19, 3) := by decide +kernel
theorem dX4_step_107 : decode cX4_step 107 = .ok (.goto 105, 3) := by decide +kernel
theorem dX4_step_110 : decode cX4_step 110 = .ok (.iload_n 1, 1) := by decide +kernel
theorem dX4_step_111 : decode cX4_step 111 = .ok (.aload_n 0, 1) := by decide +kernel
theorem dX4_step_112 : decode cX4_step 112 = .ok (.getfield 15, 3) := by decide +kernel
theorem dX4_step_115 : decode cX4_step 115 = .ok (.if_icmp .lt 11, 3) := by decide +kernel
theorem dX4_step_118 : decode cX4_step 118 = .ok (.aload_n 0, 1) := by decide +kernel
theorem dX4_step_119 : decode cX4_step 119 = .ok (.iconst 3, 1) := by decide +kernel
theorem dX4_step_120 : decode cX4_step 120 = .ok (.putfield 31, 3) := by decide +kernel
theorem dX4_step_123 : decode cX4_step 123 = .ok (.goto 89, 3) := by decide +kernel
theorem dX4_step_126 : decode cX4_step 126 = .ok (.aload_n 0, 1) := by decide +kernel
theorem dX4_step_127 : decode cX4_step 127 = .ok (.aload_n 0, 1) := by decide +kernel
theorem dX4_step_128 : decode cX4_step 128 = .ok (.getfield 9, 3) := by decide +kernel
theorem dX4_step_131 : decode cX4_step 131 = .ok (.iload_n 1, 1) := by decide +kernel
theorem dX4_step_132 : decode cX4_step 132 = .ok (.iaload, 1) := by decide +kernel
theorem dX4_step_133 : decode cX4_step 133 = .ok (.putfield 28, 3) := by decide +kernel
theorem dX4_step_136 : decode cX4_step 136 = .ok (.aload_n 0, 1) := by decide +kernel
theorem dX4_step_137 : decode cX4_step 137 = .ok (.iload_n 1, 1) := by decide +kernel
theorem dX4_step_138 : decode cX4_step 138 = .ok (.iconst 1, 1) := by decide +kernel
theorem dX4_step_139 : decode cX4_step 139 = .ok (.iadd, 1) := by decide +kernel
theorem dX4_step_140 : decode cX4_step 140 = .ok (.putfield 19, 3) := by decide +kernel
theorem dX4_step_143 : decode cX4_step 143 = .ok (.aload_n 0, 1) := by decide +kernel
theorem dX4_step_144 : decode cX4_step 144 = .ok (.getfield 28, 3) := by decide +kernel
theorem dX4_step_147 : decode cX4_step 147 = .ok (.bipush 97, 2) := by decide +kernel
theorem dX4_step_149 : decode cX4_step 149 = .ok (.if_icmp .lt 16, 3) := by decide +kernel
theorem dX4_step_152 : decode cX4_step 152 = .ok (.aload_n 0, 1) := by decide +kernel
theorem dX4_step_153 : decode cX4_step 153 = .ok (.getfield 28, 3) := by decide +kernel
theorem dX4_step_156 : decode cX4_step 156 = .ok (.bipush 122, 2) := by decide +kernel
theorem dX4_step_158 : decode cX4_step 158 = .ok (.if_icmp .gt 7, 3) := by decide +kernel
theorem dX4_step_161 : decode cX4_step 161 = .ok (.iconst 1, 1) := by decide +kernel
theorem dX4_step_162 : decode cX4_step 162 = .ok (.goto 4, 3) := by decide +kernel
theorem dX4_step_165 : decode cX4_step 165 = .ok (.iconst 0, 1) := by decide +kernel
theorem dX4_step_166 : decode cX4_step 166 = .ok (.istore_n 2, 1) := by decide +kernel
theorem dX4_step_167 : decode cX4_step 167 = .ok (.aload_n 0, 1) := by decide +kernel
theorem dX4_step_168 : decode cX4_step 168 = .ok (.getfield 28, 3) := by decide +kernel
theorem dX4_step_171 : decode cX4_step 171 = .ok (.bipush 44, 2) := by decide +kernel
theorem dX4_step_173 : decode cX4_step 173 = .ok (.if_icmp .eq 12, 3) := by decide +kernel
theorem dX4_step_176 : decode cX4_step 176 = .ok (.aload_n 0, 1) := by decide +kernel
theorem dX4_step_177 : decode cX4_step 177 = .ok (.getfield 28, 3) := by decide +kernel
theorem dX4_step_180 : decode cX4_step 180 = .ok (.bipush 59, 2) := by decide +kernel
theorem dX4_step_182 : decode cX4_step 182 = .ok (.if_icmp .ne 7, 3) := by decide +kernel
theorem dX4_step_185 : decode cX4_step 185 = .ok (.iconst 1, 1) := by decide +kernel
theorem dX4_step_186 : decode cX4_step 186 = .ok (.goto 4, 3) := by decide +kernel
theorem dX4_step_189 : decode cX4_step 189 = .ok (.iconst 0, 1) := by decide +kernel
theorem dX4_step_190 : decode cX4_step 190 = .ok (.istore_n 3, 1) := by decide +kernel
theorem dX4_step_191 : decode cX4_step 191 = .ok (.aload_n 0, 1) := by decide +kernel
theorem dX4_step_192 : decode cX4_step 192 = .ok (.iload_n 2, 1) := by decide +kernel
theorem dX4_step_193 : decode cX4_step 193 = .ok (.ifCond .eq 7, 3) := by decide +kernel
theorem dX4_step_196 : decode cX4_step 196 = .ok (.iconst 0, 1) := by decide +kernel
theorem dX4_step_197 : decode cX4_step 197 = .ok (.goto 12, 3) := by decide +kernel
theorem dX4_step_200 : decode cX4_step 200 = .ok (.iload_n 3, 1) := by decide +kernel
theorem dX4_step_201 : decode cX4_step 201 = .ok (.ifCond .eq 7, 3) := by decide +kernel
theorem dX4_step_204 : decode cX4_step 204 = .ok (.iconst 2, 1) := by decide +kernel
theorem dX4_step_205 : decode cX4_step 205 = .ok (.goto 4, 3) := by decide +kernel
theorem dX4_step_208 : decode cX4_step 208 = .ok (.iconst 4, 1) := by decide +kernel
theorem dX4_step_209 : decode cX4_step 209 = .ok (.putfield 31, 3) := by decide +kernel
theorem dX4_step_212 : decode cX4_step 212 = .ok (.return_, 1) := by decide +kernel
theorem dX4_isLetter_0 : decode cX4_isLetter 0 = .ok (.aload_n 0, 1) := by decide +kernel
theorem dX4_isLetter_1 : decode cX4_isLetter 1 = .ok (.getfield 31, 3) := by decide +kernel
theorem dX4_isLetter_4 : decode cX4_isLetter 4 = .ok (.ifCond .ne 15, 3) := by decide +kernel
theorem dX4_isLetter_7 : decode cX4_isLetter 7 = .ok (.aload_n 0, 1) := by decide +kernel
theorem dX4_isLetter_8 : decode cX4_isLetter 8 = .ok (.getfield 28, 3) := by decide +kernel
theorem dX4_isLetter_11 : decode cX4_isLetter 11 = .ok (.iload_n 1, 1) := by decide +kernel
theorem dX4_isLetter_12 : decode cX4_isLetter 12 = .ok (.if_icmp .ne 7, 3) := by decide +kernel
theorem dX4_isLetter_15 : decode cX4_isLetter 15 = .ok (.iconst 1, 1) := by decide +kernel
theorem dX4_isLetter_16 : decode cX4_isLetter 16 = .ok (.goto 4, 3) := by decide +kernel
theorem dX4_isLetter_19 : decode cX4_isLetter 19 = .ok (.iconst 0, 1) := by decide +kernel
theorem dX4_isLetter_20 : decode cX4_isLetter 20 = .ok (.ireturn, 1) := by decide +kernel
theorem dX4_isSign_0 : decode cX4_isSign 0 = .ok (.aload_n 0, 1) := by decide +kernel
theorem dX4_isSign_1 : decode cX4_isSign 1 = .ok (.getfield 31, 3) := by decide +kernel
theorem dX4_isSign_4 : decode cX4_isSign 4 = .ok (.iconst 2, 1) := by decide +kernel
theorem dX4_isSign_5 : decode cX4_isSign 5 = .ok (.if_icmp .ne 15, 3) := by decide +kernel
theorem dX4_isSign_8 : decode cX4_isSign 8 = .ok (.aload_n 0, 1) := by decide +kernel
theorem dX4_isSign_9 : decode cX4_isSign 9 = .ok (.getfield 28, 3) := by decide +kernel
theorem dX4_isSign_12 : decode cX4_isSign 12 = .ok (.iload_n 1, 1) := by decide +kernel
theorem dX4_isSign_13 : decode cX4_isSign 13 = .ok (.if_icmp .ne 7, 3) := by decide +kernel
theorem dX4_isSign_16 : decode cX4_isSign 16 = .ok (.iconst 1, 1) := by decide +kernel
theorem dX4_isSign_17 : decode cX4_isSign 17 = .ok (.goto 4, 3) := by decide +kernel
theorem dX4_isSign_20 : decode cX4_isSign 20 = .ok (.iconst 0, 1) := by decide +kernel
theorem dX4_isSign_21 : decode cX4_isSign 21 = .ok (.ireturn, 1) := by decide +kernel
