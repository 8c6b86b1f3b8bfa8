/-! decode rows (written by wip/whole/prog/mknames.py) -/
theorem d_Mo_init_0 : decode prog_13_method_1_code 0 = .ok (.aload_n 0, 1) := by decide +kernel
theorem d_Mo_init_1 : decode prog_13_method_1_code 1 = .ok (.invokespecial 1, 3) := by decide +kernel
theorem d_Mo_init_4 : decode prog_13_method_1_code 4 = .ok (.aload_n 0, 1) := by decide +kernel
theorem d_Mo_init_5 : decode prog_13_method_1_code 5 = .ok (.iconst 4, 1) := by decide +kernel
theorem d_Mo_init_6 : decode prog_13_method_1_code 6 = .ok (.newarray .int, 2) := by decide +kernel
theorem d_Mo_init_8 : decode prog_13_method_1_code 8 = .ok (.putfield 7, 3) := by decide +kernel
theorem d_Mo_init_11 : decode prog_13_method_1_code 11 = .ok (.aload_n 0, 1) := by decide +kernel
theorem d_Mo_init_12 : decode prog_13_method_1_code 12 = .ok (.bipush 96, 2) := by decide +kernel
theorem d_Mo_init_14 : decode prog_13_method_1_code 14 = .ok (.newarray .int, 2) := by decide +kernel
theorem d_Mo_init_16 : decode prog_13_method_1_code 16 = .ok (.putfield 13, 3) := by decide +kernel
theorem d_Mo_init_19 : decode prog_13_method_1_code 19 = .ok (.aload_n 0, 1) := by decide +kernel
theorem d_Mo_init_20 : decode prog_13_method_1_code 20 = .ok (.bipush 96, 2) := by decide +kernel
theorem d_Mo_init_22 : decode prog_13_method_1_code 22 = .ok (.newarray .int, 2) := by decide +kernel
theorem d_Mo_init_24 : decode prog_13_method_1_code 24 = .ok (.putfield 16, 3) := by decide +kernel
theorem d_Mo_init_27 : decode prog_13_method_1_code 27 = .ok (.aload_n 0, 1) := by decide +kernel
theorem d_Mo_init_28 : decode prog_13_method_1_code 28 = .ok (.iconst 4, 1) := by decide +kernel
theorem d_Mo_init_29 : decode prog_13_method_1_code 29 = .ok (.newarray .boolean, 2) := by decide +kernel
theorem d_Mo_init_31 : decode prog_13_method_1_code 31 = .ok (.putfield 19, 3) := by decide +kernel
theorem d_Mo_init_34 : decode prog_13_method_1_code 34 = .ok (.aload_n 0, 1) := by decide +kernel
theorem d_Mo_init_35 : decode prog_13_method_1_code 35 = .ok (.iconst 4, 1) := by decide +kernel
theorem d_Mo_init_36 : decode prog_13_method_1_code 36 = .ok (.newarray .int, 2) := by decide +kernel
theorem d_Mo_init_38 : decode prog_13_method_1_code 38 = .ok (.putfield 23, 3) := by decide +kernel
theorem d_Mo_init_41 : decode prog_13_method_1_code 41 = .ok (.aload_n 0, 1) := by decide +kernel
theorem d_Mo_init_42 : decode prog_13_method_1_code 42 = .ok (.bipush 24, 2) := by decide +kernel
theorem d_Mo_init_44 : decode prog_13_method_1_code 44 = .ok (.newarray .int, 2) := by decide +kernel
theorem d_Mo_init_46 : decode prog_13_method_1_code 46 = .ok (.putfield 26, 3) := by decide +kernel
theorem d_Mo_init_49 : decode prog_13_method_1_code 49 = .ok (.aload_n 0, 1) := by decide +kernel
theorem d_Mo_init_50 : decode prog_13_method_1_code 50 = .ok (.bipush 24, 2) := by decide +kernel
theorem d_Mo_init_52 : decode prog_13_method_1_code 52 = .ok (.newarray .int, 2) := by decide +kernel
theorem d_Mo_init_54 : decode prog_13_method_1_code 54 = .ok (.putfield 29, 3) := by decide +kernel
theorem d_Mo_init_57 : decode prog_13_method_1_code 57 = .ok (.aload_n 0, 1) := by decide +kernel
theorem d_Mo_init_58 : decode prog_13_method_1_code 58 = .ok (.sipush 144, 3) := by decide +kernel
theorem d_Mo_init_61 : decode prog_13_method_1_code 61 = .ok (.newarray .int, 2) := by decide +kernel
theorem d_Mo_init_63 : decode prog_13_method_1_code 63 = .ok (.putfield 32, 3) := by decide +kernel
theorem d_Mo_init_66 : decode prog_13_method_1_code 66 = .ok (.aload_n 0, 1) := by decide +kernel
theorem d_Mo_init_67 : decode prog_13_method_1_code 67 = .ok (.sipush 144, 3) := by decide +kernel
theorem d_Mo_init_70 : decode prog_13_method_1_code 70 = .ok (.newarray .int, 2) := by decide +kernel
theorem d_Mo_init_72 : decode prog_13_method_1_code 72 = .ok (.putfield 35, 3) := by decide +kernel
theorem d_Mo_init_75 : decode prog_13_method_1_code 75 = .ok (.aload_n 0, 1) := by decide +kernel
theorem d_Mo_init_76 : decode prog_13_method_1_code 76 = .ok (.sipush 144, 3) := by decide +kernel
theorem d_Mo_init_79 : decode prog_13_method_1_code 79 = .ok (.newarray .int, 2) := by decide +kernel
theorem d_Mo_init_81 : decode prog_13_method_1_code 81 = .ok (.putfield 38, 3) := by decide +kernel
theorem d_Mo_init_84 : decode prog_13_method_1_code 84 = .ok (.aload_n 0, 1) := by decide +kernel
theorem d_Mo_init_85 : decode prog_13_method_1_code 85 = .ok (.bipush 48, 2) := by decide +kernel
theorem d_Mo_init_87 : decode prog_13_method_1_code 87 = .ok (.newarray .int, 2) := by decide +kernel
theorem d_Mo_init_89 : decode prog_13_method_1_code 89 = .ok (.putfield 41, 3) := by decide +kernel
theorem d_Mo_init_92 : decode prog_13_method_1_code 92 = .ok (.aload_n 0, 1) := by decide +kernel
theorem d_Mo_init_93 : decode prog_13_method_1_code 93 = .ok (.bipush 48, 2) := by decide +kernel
theorem d_Mo_init_95 : decode prog_13_method_1_code 95 = .ok (.newarray .int, 2) := by decide +kernel
theorem d_Mo_init_97 : decode prog_13_method_1_code 97 = .ok (.putfield 44, 3) := by decide +kernel
theorem d_Mo_init_100 : decode prog_13_method_1_code 100 = .ok (.aload_n 0, 1) := by decide +kernel
theorem d_Mo_init_101 : decode prog_13_method_1_code 101 = .ok (.sipush 144, 3) := by decide +kernel
theorem d_Mo_init_104 : decode prog_13_method_1_code 104 = .ok (.newarray .int, 2) := by decide +kernel
theorem d_Mo_init_106 : decode prog_13_method_1_code 106 = .ok (.putfield 47, 3) := by decide +kernel
theorem d_Mo_init_109 : decode prog_13_method_1_code 109 = .ok (.aload_n 0, 1) := by decide +kernel
theorem d_Mo_init_110 : decode prog_13_method_1_code 110 = .ok (.sipush 144, 3) := by decide +kernel
theorem d_Mo_init_113 : decode prog_13_method_1_code 113 = .ok (.newarray .int, 2) := by decide +kernel
theorem d_Mo_init_115 : decode prog_13_method_1_code 115 = .ok (.putfield 50, 3) := by decide +kernel
theorem d_Mo_init_118 : decode prog_13_method_1_code 118 = .ok (.aload_n 0, 1) := by decide +kernel
theorem d_Mo_init_119 : decode prog_13_method_1_code 119 = .ok (.sipush 144, 3) := by decide +kernel
theorem d_Mo_init_122 : decode prog_13_method_1_code 122 = .ok (.newarray .int, 2) := by decide +kernel
theorem d_Mo_init_124 : decode prog_13_method_1_code 124 = .ok (.putfield 53, 3) := by decide +kernel
theorem d_Mo_init_127 : decode prog_13_method_1_code 127 = .ok (.aload_n 0, 1) := by decide +kernel
theorem d_Mo_init_128 : decode prog_13_method_1_code 128 = .ok (.sipush 4368, 3) := by decide +kernel
theorem d_Mo_init_131 : decode prog_13_method_1_code 131 = .ok (.newarray .long, 2) := by decide +kernel
theorem d_Mo_init_133 : decode prog_13_method_1_code 133 = .ok (.putfield 56, 3) := by decide +kernel
theorem d_Mo_init_136 : decode prog_13_method_1_code 136 = .ok (.aload_n 0, 1) := by decide +kernel
theorem d_Mo_init_137 : decode prog_13_method_1_code 137 = .ok (.bipush 25, 2) := by decide +kernel
theorem d_Mo_init_139 : decode prog_13_method_1_code 139 = .ok (.newarray .long, 2) := by decide +kernel
theorem d_Mo_init_141 : decode prog_13_method_1_code 141 = .ok (.putfield 60, 3) := by decide +kernel
theorem d_Mo_init_144 : decode prog_13_method_1_code 144 = .ok (.aload_n 0, 1) := by decide +kernel
theorem d_Mo_init_145 : decode prog_13_method_1_code 145 = .ok (.bipush 25, 2) := by decide +kernel
theorem d_Mo_init_147 : decode prog_13_method_1_code 147 = .ok (.newarray .long, 2) := by decide +kernel
theorem d_Mo_init_149 : decode prog_13_method_1_code 149 = .ok (.putfield 63, 3) := by decide +kernel
theorem d_Mo_init_152 : decode prog_13_method_1_code 152 = .ok (.aload_n 0, 1) := by decide +kernel
theorem d_Mo_init_153 : decode prog_13_method_1_code 153 = .ok (.bipush 12, 2) := by decide +kernel
theorem d_Mo_init_155 : decode prog_13_method_1_code 155 = .ok (.newarray .int, 2) := by decide +kernel
theorem d_Mo_init_157 : decode prog_13_method_1_code 157 = .ok (.putfield 66, 3) := by decide +kernel
theorem d_Mo_init_160 : decode prog_13_method_1_code 160 = .ok (.aload_n 0, 1) := by decide +kernel
theorem d_Mo_init_161 : decode prog_13_method_1_code 161 = .ok (.iconst 4, 1) := by decide +kernel
theorem d_Mo_init_162 : decode prog_13_method_1_code 162 = .ok (.newarray .int, 2) := by decide +kernel
theorem d_Mo_init_164 : decode prog_13_method_1_code 164 = .ok (.putfield 69, 3) := by decide +kernel
theorem d_Mo_init_167 : decode prog_13_method_1_code 167 = .ok (.aload_n 0, 1) := by decide +kernel
theorem d_Mo_init_168 : decode prog_13_method_1_code 168 = .ok (.iconst 4, 1) := by decide +kernel
theorem d_Mo_init_169 : decode prog_13_method_1_code 169 = .ok (.newarray .int, 2) := by decide +kernel
theorem d_Mo_init_171 : decode prog_13_method_1_code 171 = .ok (.putfield 72, 3) := by decide +kernel
theorem d_Mo_init_174 : decode prog_13_method_1_code 174 = .ok (.aload_n 0, 1) := by decide +kernel
theorem d_Mo_init_175 : decode prog_13_method_1_code 175 = .ok (.iconst 4, 1) := by decide +kernel
theorem d_Mo_init_176 : decode prog_13_method_1_code 176 = .ok (.newarray .int, 2) := by decide +kernel
theorem d_Mo_init_178 : decode prog_13_method_1_code 178 = .ok (.putfield 75, 3) := by decide +kernel
theorem d_Mo_init_181 : decode prog_13_method_1_code 181 = .ok (.aload_n 0, 1) := by decide +kernel
theorem d_Mo_init_182 : decode prog_13_method_1_code 182 = .ok (.bipush 16, 2) := by decide +kernel
theorem d_Mo_init_184 : decode prog_13_method_1_code 184 = .ok (.newarray .int, 2) := by decide +kernel
theorem d_Mo_init_186 : decode prog_13_method_1_code 186 = .ok (.putfield 78, 3) := by decide +kernel
theorem d_Mo_init_189 : decode prog_13_method_1_code 189 = .ok (.aload_n 0, 1) := by decide +kernel
theorem d_Mo_init_190 : decode prog_13_method_1_code 190 = .ok (.bipush 24, 2) := by decide +kernel
theorem d_Mo_init_192 : decode prog_13_method_1_code 192 = .ok (.newarray .int, 2) := by decide +kernel
theorem d_Mo_init_194 : decode prog_13_method_1_code 194 = .ok (.putfield 81, 3) := by decide +kernel
theorem d_Mo_init_197 : decode prog_13_method_1_code 197 = .ok (.iconst 0, 1) := by decide +kernel
theorem d_Mo_init_198 : decode prog_13_method_1_code 198 = .ok (.istore_n 1, 1) := by decide +kernel
theorem d_Mo_init_199 : decode prog_13_method_1_code 199 = .ok (.iload_n 1, 1) := by decide +kernel
theorem d_Mo_init_200 : decode prog_13_method_1_code 200 = .ok (.iconst 4, 1) := by decide +kernel
theorem d_Mo_init_201 : decode prog_13_method_1_code 201 = .ok (.if_icmp .ge 16, 3) := by decide +kernel
theorem d_Mo_init_204 : decode prog_13_method_1_code 204 = .ok (.aload_n 0, 1) := by decide +kernel
theorem d_Mo_init_205 : decode prog_13_method_1_code 205 = .ok (.getfield 23, 3) := by decide +kernel
theorem d_Mo_init_208 : decode prog_13_method_1_code 208 = .ok (.iload_n 1, 1) := by decide +kernel
theorem d_Mo_init_209 : decode prog_13_method_1_code 209 = .ok (.iconst 1, 1) := by decide +kernel
theorem d_Mo_init_210 : decode prog_13_method_1_code 210 = .ok (.iastore, 1) := by decide +kernel
theorem d_Mo_init_211 : decode prog_13_method_1_code 211 = .ok (.iinc 1 1, 3) := by decide +kernel
theorem d_Mo_init_214 : decode prog_13_method_1_code 214 = .ok (.goto (-15), 3) := by decide +kernel
theorem d_Mo_init_217 : decode prog_13_method_1_code 217 = .ok (.return_, 1) := by decide +kernel
theorem d_Mo_put_0 : decode prog_13_method_4_code 0 = .ok (.iload_n 1, 1) := by decide +kernel
theorem d_Mo_put_1 : decode prog_13_method_4_code 1 = .ok (.i2l, 1) := by decide +kernel
theorem d_Mo_put_2 : decode prog_13_method_4_code 2 = .ok (.lconst 0, 1) := by decide +kernel
theorem d_Mo_put_3 : decode prog_13_method_4_code 3 = .ok (.ldc2_w 84, 3) := by decide +kernel
theorem d_Mo_put_6 : decode prog_13_method_4_code 6 = .ok (.invokestatic 86, 3) := by decide +kernel
theorem d_Mo_put_9 : decode prog_13_method_4_code 9 = .ok (.ifCond .eq 29, 3) := by decide +kernel
theorem d_Mo_put_12 : decode prog_13_method_4_code 12 = .ok (.iload_n 2, 1) := by decide +kernel
theorem d_Mo_put_13 : decode prog_13_method_4_code 13 = .ok (.i2l, 1) := by decide +kernel
theorem d_Mo_put_14 : decode prog_13_method_4_code 14 = .ok (.lconst 0, 1) := by decide +kernel
theorem d_Mo_put_15 : decode prog_13_method_4_code 15 = .ok (.ldc2_w 90, 3) := by decide +kernel
theorem d_Mo_put_18 : decode prog_13_method_4_code 18 = .ok (.invokestatic 86, 3) := by decide +kernel
theorem d_Mo_put_21 : decode prog_13_method_4_code 21 = .ok (.ifCond .eq 17, 3) := by decide +kernel
theorem d_Mo_put_24 : decode prog_13_method_4_code 24 = .ok (.iload_n 3, 1) := by decide +kernel
theorem d_Mo_put_25 : decode prog_13_method_4_code 25 = .ok (.i2l, 1) := by decide +kernel
theorem d_Mo_put_26 : decode prog_13_method_4_code 26 = .ok (.ldc2_w 92, 3) := by decide +kernel
theorem d_Mo_put_29 : decode prog_13_method_4_code 29 = .ok (.ldc2_w 94, 3) := by decide +kernel
theorem d_Mo_put_32 : decode prog_13_method_4_code 32 = .ok (.invokestatic 86, 3) := by decide +kernel
theorem d_Mo_put_35 : decode prog_13_method_4_code 35 = .ok (.ifCond .ne 5, 3) := by decide +kernel
theorem d_Mo_put_38 : decode prog_13_method_4_code 38 = .ok (.iconst (-1), 1) := by decide +kernel
theorem d_Mo_put_39 : decode prog_13_method_4_code 39 = .ok (.ireturn, 1) := by decide +kernel
theorem d_Mo_put_40 : decode prog_13_method_4_code 40 = .ok (.aload_n 0, 1) := by decide +kernel
theorem d_Mo_put_41 : decode prog_13_method_4_code 41 = .ok (.getfield 7, 3) := by decide +kernel
theorem d_Mo_put_44 : decode prog_13_method_4_code 44 = .ok (.iload_n 1, 1) := by decide +kernel
theorem d_Mo_put_45 : decode prog_13_method_4_code 45 = .ok (.iaload, 1) := by decide +kernel
theorem d_Mo_put_46 : decode prog_13_method_4_code 46 = .ok (.bipush 24, 2) := by decide +kernel
theorem d_Mo_put_48 : decode prog_13_method_4_code 48 = .ok (.if_icmp .ne 5, 3) := by decide +kernel
theorem d_Mo_put_51 : decode prog_13_method_4_code 51 = .ok (.iconst (-1), 1) := by decide +kernel
theorem d_Mo_put_52 : decode prog_13_method_4_code 52 = .ok (.ireturn, 1) := by decide +kernel
theorem d_Mo_put_53 : decode prog_13_method_4_code 53 = .ok (.aload_n 0, 1) := by decide +kernel
theorem d_Mo_put_54 : decode prog_13_method_4_code 54 = .ok (.getfield 13, 3) := by decide +kernel
theorem d_Mo_put_57 : decode prog_13_method_4_code 57 = .ok (.bipush 24, 2) := by decide +kernel
theorem d_Mo_put_59 : decode prog_13_method_4_code 59 = .ok (.iload_n 1, 1) := by decide +kernel
theorem d_Mo_put_60 : decode prog_13_method_4_code 60 = .ok (.imul, 1) := by decide +kernel
theorem d_Mo_put_61 : decode prog_13_method_4_code 61 = .ok (.aload_n 0, 1) := by decide +kernel
theorem d_Mo_put_62 : decode prog_13_method_4_code 62 = .ok (.getfield 7, 3) := by decide +kernel
theorem d_Mo_put_65 : decode prog_13_method_4_code 65 = .ok (.iload_n 1, 1) := by decide +kernel
theorem d_Mo_put_66 : decode prog_13_method_4_code 66 = .ok (.iaload, 1) := by decide +kernel
theorem d_Mo_put_67 : decode prog_13_method_4_code 67 = .ok (.iadd, 1) := by decide +kernel
theorem d_Mo_put_68 : decode prog_13_method_4_code 68 = .ok (.iload_n 2, 1) := by decide +kernel
theorem d_Mo_put_69 : decode prog_13_method_4_code 69 = .ok (.iastore, 1) := by decide +kernel
theorem d_Mo_put_70 : decode prog_13_method_4_code 70 = .ok (.aload_n 0, 1) := by decide +kernel
theorem d_Mo_put_71 : decode prog_13_method_4_code 71 = .ok (.getfield 16, 3) := by decide +kernel
theorem d_Mo_put_74 : decode prog_13_method_4_code 74 = .ok (.bipush 24, 2) := by decide +kernel
theorem d_Mo_put_76 : decode prog_13_method_4_code 76 = .ok (.iload_n 1, 1) := by decide +kernel
theorem d_Mo_put_77 : decode prog_13_method_4_code 77 = .ok (.imul, 1) := by decide +kernel
theorem d_Mo_put_78 : decode prog_13_method_4_code 78 = .ok (.aload_n 0, 1) := by decide +kernel
theorem d_Mo_put_79 : decode prog_13_method_4_code 79 = .ok (.getfield 7, 3) := by decide +kernel
theorem d_Mo_put_82 : decode prog_13_method_4_code 82 = .ok (.iload_n 1, 1) := by decide +kernel
theorem d_Mo_put_83 : decode prog_13_method_4_code 83 = .ok (.iaload, 1) := by decide +kernel
theorem d_Mo_put_84 : decode prog_13_method_4_code 84 = .ok (.iadd, 1) := by decide +kernel
theorem d_Mo_put_85 : decode prog_13_method_4_code 85 = .ok (.iload_n 3, 1) := by decide +kernel
theorem d_Mo_put_86 : decode prog_13_method_4_code 86 = .ok (.iastore, 1) := by decide +kernel
theorem d_Mo_put_87 : decode prog_13_method_4_code 87 = .ok (.aload_n 0, 1) := by decide +kernel
theorem d_Mo_put_88 : decode prog_13_method_4_code 88 = .ok (.getfield 7, 3) := by decide +kernel
theorem d_Mo_put_91 : decode prog_13_method_4_code 91 = .ok (.iload_n 1, 1) := by decide +kernel
theorem d_Mo_put_92 : decode prog_13_method_4_code 92 = .ok (.dup2, 1) := by decide +kernel
theorem d_Mo_put_93 : decode prog_13_method_4_code 93 = .ok (.iaload, 1) := by decide +kernel
theorem d_Mo_put_94 : decode prog_13_method_4_code 94 = .ok (.iconst 1, 1) := by decide +kernel
theorem d_Mo_put_95 : decode prog_13_method_4_code 95 = .ok (.iadd, 1) := by decide +kernel
theorem d_Mo_put_96 : decode prog_13_method_4_code 96 = .ok (.iastore, 1) := by decide +kernel
theorem d_Mo_put_97 : decode prog_13_method_4_code 97 = .ok (.aload_n 0, 1) := by decide +kernel
theorem d_Mo_put_98 : decode prog_13_method_4_code 98 = .ok (.iload_n 1, 1) := by decide +kernel
theorem d_Mo_put_99 : decode prog_13_method_4_code 99 = .ok (.invokevirtual 96, 3) := by decide +kernel
theorem d_Mo_put_102 : decode prog_13_method_4_code 102 = .ok (.aload_n 0, 1) := by decide +kernel
theorem d_Mo_put_103 : decode prog_13_method_4_code 103 = .ok (.getfield 7, 3) := by decide +kernel
theorem d_Mo_put_106 : decode prog_13_method_4_code 106 = .ok (.iload_n 1, 1) := by decide +kernel
theorem d_Mo_put_107 : decode prog_13_method_4_code 107 = .ok (.iaload, 1) := by decide +kernel
theorem d_Mo_put_108 : decode prog_13_method_4_code 108 = .ok (.iconst 1, 1) := by decide +kernel
theorem d_Mo_put_109 : decode prog_13_method_4_code 109 = .ok (.isub, 1) := by decide +kernel
theorem d_Mo_put_110 : decode prog_13_method_4_code 110 = .ok (.ireturn, 1) := by decide +kernel
theorem d_Mo_in_0 : decode prog_13_method_2_code 0 = .ok (.lload_n 0, 1) := by decide +kernel
theorem d_Mo_in_1 : decode prog_13_method_2_code 1 = .ok (.lload_n 2, 1) := by decide +kernel
theorem d_Mo_in_2 : decode prog_13_method_2_code 2 = .ok (.lcmp, 1) := by decide +kernel
theorem d_Mo_in_3 : decode prog_13_method_2_code 3 = .ok (.ifCond .lt 14, 3) := by decide +kernel
theorem d_Mo_in_6 : decode prog_13_method_2_code 6 = .ok (.lload_n 0, 1) := by decide +kernel
theorem d_Mo_in_7 : decode prog_13_method_2_code 7 = .ok (.lload 4, 2) := by decide +kernel
theorem d_Mo_in_9 : decode prog_13_method_2_code 9 = .ok (.lcmp, 1) := by decide +kernel
theorem d_Mo_in_10 : decode prog_13_method_2_code 10 = .ok (.ifCond .gt 7, 3) := by decide +kernel
theorem d_Mo_in_13 : decode prog_13_method_2_code 13 = .ok (.iconst 1, 1) := by decide +kernel
theorem d_Mo_in_14 : decode prog_13_method_2_code 14 = .ok (.goto 4, 3) := by decide +kernel
theorem d_Mo_in_17 : decode prog_13_method_2_code 17 = .ok (.iconst 0, 1) := by decide +kernel
theorem d_Mo_in_18 : decode prog_13_method_2_code 18 = .ok (.ireturn, 1) := by decide +kernel
theorem d_Mo_changed_0 : decode prog_13_method_3_code 0 = .ok (.iload_n 1, 1) := by decide +kernel
theorem d_Mo_changed_1 : decode prog_13_method_3_code 1 = .ok (.istore_n 2, 1) := by decide +kernel
theorem d_Mo_changed_2 : decode prog_13_method_3_code 2 = .ok (.iload_n 2, 1) := by decide +kernel
theorem d_Mo_changed_3 : decode prog_13_method_3_code 3 = .ok (.iconst 4, 1) := by decide +kernel
theorem d_Mo_changed_4 : decode prog_13_method_3_code 4 = .ok (.if_icmp .ge 16, 3) := by decide +kernel
theorem d_Mo_changed_7 : decode prog_13_method_3_code 7 = .ok (.aload_n 0, 1) := by decide +kernel
theorem d_Mo_changed_8 : decode prog_13_method_3_code 8 = .ok (.getfield 19, 3) := by decide +kernel
theorem d_Mo_changed_11 : decode prog_13_method_3_code 11 = .ok (.iload_n 2, 1) := by decide +kernel
theorem d_Mo_changed_12 : decode prog_13_method_3_code 12 = .ok (.iconst 0, 1) := by decide +kernel
theorem d_Mo_changed_13 : decode prog_13_method_3_code 13 = .ok (.bastore, 1) := by decide +kernel
theorem d_Mo_changed_14 : decode prog_13_method_3_code 14 = .ok (.iinc 2 1, 3) := by decide +kernel
theorem d_Mo_changed_17 : decode prog_13_method_3_code 17 = .ok (.goto (-15), 3) := by decide +kernel
theorem d_Mo_changed_20 : decode prog_13_method_3_code 20 = .ok (.return_, 1) := by decide +kernel
theorem d_Mo_clear_0 : decode prog_13_method_6_code 0 = .ok (.iload_n 1, 1) := by decide +kernel
theorem d_Mo_clear_1 : decode prog_13_method_6_code 1 = .ok (.i2l, 1) := by decide +kernel
theorem d_Mo_clear_2 : decode prog_13_method_6_code 2 = .ok (.lconst 0, 1) := by decide +kernel
theorem d_Mo_clear_3 : decode prog_13_method_6_code 3 = .ok (.ldc2_w 84, 3) := by decide +kernel
theorem d_Mo_clear_6 : decode prog_13_method_6_code 6 = .ok (.invokestatic 86, 3) := by decide +kernel
theorem d_Mo_clear_9 : decode prog_13_method_6_code 9 = .ok (.ifCond .ne 5, 3) := by decide +kernel
theorem d_Mo_clear_12 : decode prog_13_method_6_code 12 = .ok (.iconst 0, 1) := by decide +kernel
theorem d_Mo_clear_13 : decode prog_13_method_6_code 13 = .ok (.ireturn, 1) := by decide +kernel
theorem d_Mo_clear_14 : decode prog_13_method_6_code 14 = .ok (.aload_n 0, 1) := by decide +kernel
theorem d_Mo_clear_15 : decode prog_13_method_6_code 15 = .ok (.getfield 7, 3) := by decide +kernel
theorem d_Mo_clear_18 : decode prog_13_method_6_code 18 = .ok (.iload_n 1, 1) := by decide +kernel
theorem d_Mo_clear_19 : decode prog_13_method_6_code 19 = .ok (.iconst 0, 1) := by decide +kernel
theorem d_Mo_clear_20 : decode prog_13_method_6_code 20 = .ok (.iastore, 1) := by decide +kernel
theorem d_Mo_clear_21 : decode prog_13_method_6_code 21 = .ok (.aload_n 0, 1) := by decide +kernel
theorem d_Mo_clear_22 : decode prog_13_method_6_code 22 = .ok (.getfield 23, 3) := by decide +kernel
theorem d_Mo_clear_25 : decode prog_13_method_6_code 25 = .ok (.iload_n 1, 1) := by decide +kernel
theorem d_Mo_clear_26 : decode prog_13_method_6_code 26 = .ok (.iconst 1, 1) := by decide +kernel
theorem d_Mo_clear_27 : decode prog_13_method_6_code 27 = .ok (.iastore, 1) := by decide +kernel
theorem d_Mo_clear_28 : decode prog_13_method_6_code 28 = .ok (.aload_n 0, 1) := by decide +kernel
theorem d_Mo_clear_29 : decode prog_13_method_6_code 29 = .ok (.bipush 6, 2) := by decide +kernel
theorem d_Mo_clear_31 : decode prog_13_method_6_code 31 = .ok (.iload_n 1, 1) := by decide +kernel
theorem d_Mo_clear_32 : decode prog_13_method_6_code 32 = .ok (.imul, 1) := by decide +kernel
theorem d_Mo_clear_33 : decode prog_13_method_6_code 33 = .ok (.iconst 0, 1) := by decide +kernel
theorem d_Mo_clear_34 : decode prog_13_method_6_code 34 = .ok (.invokevirtual 100, 3) := by decide +kernel
theorem d_Mo_clear_37 : decode prog_13_method_6_code 37 = .ok (.aload_n 0, 1) := by decide +kernel
theorem d_Mo_clear_38 : decode prog_13_method_6_code 38 = .ok (.iload_n 1, 1) := by decide +kernel
theorem d_Mo_clear_39 : decode prog_13_method_6_code 39 = .ok (.invokevirtual 96, 3) := by decide +kernel
theorem d_Mo_clear_42 : decode prog_13_method_6_code 42 = .ok (.iconst 1, 1) := by decide +kernel
theorem d_Mo_clear_43 : decode prog_13_method_6_code 43 = .ok (.ireturn, 1) := by decide +kernel
theorem d_Mo_plain_0 : decode prog_13_method_5_code 0 = .ok (.aload_n 0, 1) := by decide +kernel
theorem d_Mo_plain_1 : decode prog_13_method_5_code 1 = .ok (.getfield 26, 3) := by decide +kernel
theorem d_Mo_plain_4 : decode prog_13_method_5_code 4 = .ok (.iload_n 1, 1) := by decide +kernel
theorem d_Mo_plain_5 : decode prog_13_method_5_code 5 = .ok (.iload_n 2, 1) := by decide +kernel
theorem d_Mo_plain_6 : decode prog_13_method_5_code 6 = .ok (.iastore, 1) := by decide +kernel
theorem d_Mo_plain_7 : decode prog_13_method_5_code 7 = .ok (.aload_n 0, 1) := by decide +kernel
theorem d_Mo_plain_8 : decode prog_13_method_5_code 8 = .ok (.getfield 29, 3) := by decide +kernel
theorem d_Mo_plain_11 : decode prog_13_method_5_code 11 = .ok (.iload_n 1, 1) := by decide +kernel
theorem d_Mo_plain_12 : decode prog_13_method_5_code 12 = .ok (.iconst 0, 1) := by decide +kernel
theorem d_Mo_plain_13 : decode prog_13_method_5_code 13 = .ok (.iastore, 1) := by decide +kernel
theorem d_Mo_plain_14 : decode prog_13_method_5_code 14 = .ok (.iconst 0, 1) := by decide +kernel
theorem d_Mo_plain_15 : decode prog_13_method_5_code 15 = .ok (.istore_n 3, 1) := by decide +kernel
theorem d_Mo_plain_16 : decode prog_13_method_5_code 16 = .ok (.iload_n 3, 1) := by decide +kernel
theorem d_Mo_plain_17 : decode prog_13_method_5_code 17 = .ok (.iconst 2, 1) := by decide +kernel
theorem d_Mo_plain_18 : decode prog_13_method_5_code 18 = .ok (.if_icmp .ge 31, 3) := by decide +kernel
theorem d_Mo_plain_21 : decode prog_13_method_5_code 21 = .ok (.aload_n 0, 1) := by decide +kernel
theorem d_Mo_plain_22 : decode prog_13_method_5_code 22 = .ok (.getfield 41, 3) := by decide +kernel
theorem d_Mo_plain_25 : decode prog_13_method_5_code 25 = .ok (.iconst 2, 1) := by decide +kernel
theorem d_Mo_plain_26 : decode prog_13_method_5_code 26 = .ok (.iload_n 1, 1) := by decide +kernel
theorem d_Mo_plain_27 : decode prog_13_method_5_code 27 = .ok (.imul, 1) := by decide +kernel
theorem d_Mo_plain_28 : decode prog_13_method_5_code 28 = .ok (.iload_n 3, 1) := by decide +kernel
theorem d_Mo_plain_29 : decode prog_13_method_5_code 29 = .ok (.iadd, 1) := by decide +kernel
theorem d_Mo_plain_30 : decode prog_13_method_5_code 30 = .ok (.iconst 0, 1) := by decide +kernel
theorem d_Mo_plain_31 : decode prog_13_method_5_code 31 = .ok (.iastore, 1) := by decide +kernel
theorem d_Mo_plain_32 : decode prog_13_method_5_code 32 = .ok (.aload_n 0, 1) := by decide +kernel
theorem d_Mo_plain_33 : decode prog_13_method_5_code 33 = .ok (.getfield 44, 3) := by decide +kernel
theorem d_Mo_plain_36 : decode prog_13_method_5_code 36 = .ok (.iconst 2, 1) := by decide +kernel
theorem d_Mo_plain_37 : decode prog_13_method_5_code 37 = .ok (.iload_n 1, 1) := by decide +kernel
theorem d_Mo_plain_38 : decode prog_13_method_5_code 38 = .ok (.imul, 1) := by decide +kernel
theorem d_Mo_plain_39 : decode prog_13_method_5_code 39 = .ok (.iload_n 3, 1) := by decide +kernel
theorem d_Mo_plain_40 : decode prog_13_method_5_code 40 = .ok (.iadd, 1) := by decide +kernel
theorem d_Mo_plain_41 : decode prog_13_method_5_code 41 = .ok (.iconst 0, 1) := by decide +kernel
theorem d_Mo_plain_42 : decode prog_13_method_5_code 42 = .ok (.iastore, 1) := by decide +kernel
theorem d_Mo_plain_43 : decode prog_13_method_5_code 43 = .ok (.iinc 3 1, 3) := by decide +kernel
theorem d_Mo_plain_46 : decode prog_13_method_5_code 46 = .ok (.goto (-30), 3) := by decide +kernel
theorem d_Mo_plain_49 : decode prog_13_method_5_code 49 = .ok (.return_, 1) := by decide +kernel
theorem d_Mo_cut_0 : decode prog_13_method_8_code 0 = .ok (.iload_n 1, 1) := by decide +kernel
theorem d_Mo_cut_1 : decode prog_13_method_8_code 1 = .ok (.i2l, 1) := by decide +kernel
theorem d_Mo_cut_2 : decode prog_13_method_8_code 2 = .ok (.lconst 0, 1) := by decide +kernel
theorem d_Mo_cut_3 : decode prog_13_method_8_code 3 = .ok (.ldc2_w 84, 3) := by decide +kernel
theorem d_Mo_cut_6 : decode prog_13_method_8_code 6 = .ok (.invokestatic 86, 3) := by decide +kernel
theorem d_Mo_cut_9 : decode prog_13_method_8_code 9 = .ok (.ifCond .eq 24, 3) := by decide +kernel
theorem d_Mo_cut_12 : decode prog_13_method_8_code 12 = .ok (.iload_n 2, 1) := by decide +kernel
theorem d_Mo_cut_13 : decode prog_13_method_8_code 13 = .ok (.i2l, 1) := by decide +kernel
theorem d_Mo_cut_14 : decode prog_13_method_8_code 14 = .ok (.lconst 0, 1) := by decide +kernel
theorem d_Mo_cut_15 : decode prog_13_method_8_code 15 = .ok (.ldc2_w 104, 3) := by decide +kernel
theorem d_Mo_cut_18 : decode prog_13_method_8_code 18 = .ok (.invokestatic 86, 3) := by decide +kernel
theorem d_Mo_cut_21 : decode prog_13_method_8_code 21 = .ok (.ifCond .eq 12, 3) := by decide +kernel
theorem d_Mo_cut_24 : decode prog_13_method_8_code 24 = .ok (.aload_n 0, 1) := by decide +kernel
theorem d_Mo_cut_25 : decode prog_13_method_8_code 25 = .ok (.iload_n 1, 1) := by decide +kernel
theorem d_Mo_cut_26 : decode prog_13_method_8_code 26 = .ok (.iload_n 2, 1) := by decide +kernel
theorem d_Mo_cut_27 : decode prog_13_method_8_code 27 = .ok (.invokevirtual 106, 3) := by decide +kernel
theorem d_Mo_cut_30 : decode prog_13_method_8_code 30 = .ok (.ifCond .lt 5, 3) := by decide +kernel
theorem d_Mo_cut_33 : decode prog_13_method_8_code 33 = .ok (.iconst 0, 1) := by decide +kernel
theorem d_Mo_cut_34 : decode prog_13_method_8_code 34 = .ok (.ireturn, 1) := by decide +kernel
theorem d_Mo_cut_35 : decode prog_13_method_8_code 35 = .ok (.aload_n 0, 1) := by decide +kernel
theorem d_Mo_cut_36 : decode prog_13_method_8_code 36 = .ok (.getfield 23, 3) := by decide +kernel
theorem d_Mo_cut_39 : decode prog_13_method_8_code 39 = .ok (.iload_n 1, 1) := by decide +kernel
theorem d_Mo_cut_40 : decode prog_13_method_8_code 40 = .ok (.iaload, 1) := by decide +kernel
theorem d_Mo_cut_41 : decode prog_13_method_8_code 41 = .ok (.bipush 6, 2) := by decide +kernel
theorem d_Mo_cut_43 : decode prog_13_method_8_code 43 = .ok (.if_icmp .ne 5, 3) := by decide +kernel
theorem d_Mo_cut_46 : decode prog_13_method_8_code 46 = .ok (.iconst 0, 1) := by decide +kernel
theorem d_Mo_cut_47 : decode prog_13_method_8_code 47 = .ok (.ireturn, 1) := by decide +kernel
theorem d_Mo_cut_48 : decode prog_13_method_8_code 48 = .ok (.aload_n 0, 1) := by decide +kernel
theorem d_Mo_cut_49 : decode prog_13_method_8_code 49 = .ok (.bipush 6, 2) := by decide +kernel
theorem d_Mo_cut_51 : decode prog_13_method_8_code 51 = .ok (.iload_n 1, 1) := by decide +kernel
theorem d_Mo_cut_52 : decode prog_13_method_8_code 52 = .ok (.imul, 1) := by decide +kernel
theorem d_Mo_cut_53 : decode prog_13_method_8_code 53 = .ok (.aload_n 0, 1) := by decide +kernel
theorem d_Mo_cut_54 : decode prog_13_method_8_code 54 = .ok (.getfield 23, 3) := by decide +kernel
theorem d_Mo_cut_57 : decode prog_13_method_8_code 57 = .ok (.iload_n 1, 1) := by decide +kernel
theorem d_Mo_cut_58 : decode prog_13_method_8_code 58 = .ok (.iaload, 1) := by decide +kernel
theorem d_Mo_cut_59 : decode prog_13_method_8_code 59 = .ok (.iadd, 1) := by decide +kernel
theorem d_Mo_cut_60 : decode prog_13_method_8_code 60 = .ok (.iload_n 2, 1) := by decide +kernel
theorem d_Mo_cut_61 : decode prog_13_method_8_code 61 = .ok (.invokevirtual 100, 3) := by decide +kernel
theorem d_Mo_cut_64 : decode prog_13_method_8_code 64 = .ok (.aload_n 0, 1) := by decide +kernel
theorem d_Mo_cut_65 : decode prog_13_method_8_code 65 = .ok (.getfield 23, 3) := by decide +kernel
theorem d_Mo_cut_68 : decode prog_13_method_8_code 68 = .ok (.iload_n 1, 1) := by decide +kernel
theorem d_Mo_cut_69 : decode prog_13_method_8_code 69 = .ok (.dup2, 1) := by decide +kernel
theorem d_Mo_cut_70 : decode prog_13_method_8_code 70 = .ok (.iaload, 1) := by decide +kernel
theorem d_Mo_cut_71 : decode prog_13_method_8_code 71 = .ok (.iconst 1, 1) := by decide +kernel
theorem d_Mo_cut_72 : decode prog_13_method_8_code 72 = .ok (.iadd, 1) := by decide +kernel
theorem d_Mo_cut_73 : decode prog_13_method_8_code 73 = .ok (.iastore, 1) := by decide +kernel
theorem d_Mo_cut_74 : decode prog_13_method_8_code 74 = .ok (.aload_n 0, 1) := by decide +kernel
theorem d_Mo_cut_75 : decode prog_13_method_8_code 75 = .ok (.iload_n 1, 1) := by decide +kernel
theorem d_Mo_cut_76 : decode prog_13_method_8_code 76 = .ok (.invokevirtual 96, 3) := by decide +kernel
theorem d_Mo_cut_79 : decode prog_13_method_8_code 79 = .ok (.iconst 1, 1) := by decide +kernel
theorem d_Mo_cut_80 : decode prog_13_method_8_code 80 = .ok (.ireturn, 1) := by decide +kernel
theorem d_Mo_cutAt_0 : decode prog_13_method_7_code 0 = .ok (.iload_n 1, 1) := by decide +kernel
theorem d_Mo_cutAt_1 : decode prog_13_method_7_code 1 = .ok (.i2l, 1) := by decide +kernel
theorem d_Mo_cutAt_2 : decode prog_13_method_7_code 2 = .ok (.lconst 0, 1) := by decide +kernel
theorem d_Mo_cutAt_3 : decode prog_13_method_7_code 3 = .ok (.ldc2_w 84, 3) := by decide +kernel
theorem d_Mo_cutAt_6 : decode prog_13_method_7_code 6 = .ok (.invokestatic 86, 3) := by decide +kernel
theorem d_Mo_cutAt_9 : decode prog_13_method_7_code 9 = .ok (.ifCond .ne 5, 3) := by decide +kernel
theorem d_Mo_cutAt_12 : decode prog_13_method_7_code 12 = .ok (.iconst (-1), 1) := by decide +kernel
theorem d_Mo_cutAt_13 : decode prog_13_method_7_code 13 = .ok (.ireturn, 1) := by decide +kernel
theorem d_Mo_cutAt_14 : decode prog_13_method_7_code 14 = .ok (.iconst 0, 1) := by decide +kernel
theorem d_Mo_cutAt_15 : decode prog_13_method_7_code 15 = .ok (.istore_n 3, 1) := by decide +kernel
theorem d_Mo_cutAt_16 : decode prog_13_method_7_code 16 = .ok (.iload_n 3, 1) := by decide +kernel
theorem d_Mo_cutAt_17 : decode prog_13_method_7_code 17 = .ok (.aload_n 0, 1) := by decide +kernel
theorem d_Mo_cutAt_18 : decode prog_13_method_7_code 18 = .ok (.getfield 23, 3) := by decide +kernel
theorem d_Mo_cutAt_21 : decode prog_13_method_7_code 21 = .ok (.iload_n 1, 1) := by decide +kernel
theorem d_Mo_cutAt_22 : decode prog_13_method_7_code 22 = .ok (.iaload, 1) := by decide +kernel
theorem d_Mo_cutAt_23 : decode prog_13_method_7_code 23 = .ok (.if_icmp .ge 31, 3) := by decide +kernel
theorem d_Mo_cutAt_26 : decode prog_13_method_7_code 26 = .ok (.aload_n 0, 1) := by decide +kernel
theorem d_Mo_cutAt_27 : decode prog_13_method_7_code 27 = .ok (.getfield 26, 3) := by decide +kernel
theorem d_Mo_cutAt_30 : decode prog_13_method_7_code 30 = .ok (.bipush 6, 2) := by decide +kernel
theorem d_Mo_cutAt_32 : decode prog_13_method_7_code 32 = .ok (.iload_n 1, 1) := by decide +kernel
theorem d_Mo_cutAt_33 : decode prog_13_method_7_code 33 = .ok (.imul, 1) := by decide +kernel
theorem d_Mo_cutAt_34 : decode prog_13_method_7_code 34 = .ok (.iload_n 3, 1) := by decide +kernel
theorem d_Mo_cutAt_35 : decode prog_13_method_7_code 35 = .ok (.iadd, 1) := by decide +kernel
theorem d_Mo_cutAt_36 : decode prog_13_method_7_code 36 = .ok (.iaload, 1) := by decide +kernel
theorem d_Mo_cutAt_37 : decode prog_13_method_7_code 37 = .ok (.iload_n 2, 1) := by decide +kernel
theorem d_Mo_cutAt_38 : decode prog_13_method_7_code 38 = .ok (.if_icmp .ne 10, 3) := by decide +kernel
theorem d_Mo_cutAt_41 : decode prog_13_method_7_code 41 = .ok (.bipush 6, 2) := by decide +kernel
theorem d_Mo_cutAt_43 : decode prog_13_method_7_code 43 = .ok (.iload_n 1, 1) := by decide +kernel
theorem d_Mo_cutAt_44 : decode prog_13_method_7_code 44 = .ok (.imul, 1) := by decide +kernel
theorem d_Mo_cutAt_45 : decode prog_13_method_7_code 45 = .ok (.iload_n 3, 1) := by decide +kernel
theorem d_Mo_cutAt_46 : decode prog_13_method_7_code 46 = .ok (.iadd, 1) := by decide +kernel
theorem d_Mo_cutAt_47 : decode prog_13_method_7_code 47 = .ok (.ireturn, 1) := by decide +kernel
theorem d_Mo_cutAt_48 : decode prog_13_method_7_code 48 = .ok (.iinc 3 1, 3) := by decide +kernel
theorem d_Mo_cutAt_51 : decode prog_13_method_7_code 51 = .ok (.goto (-35), 3) := by decide +kernel
theorem d_Mo_cutAt_54 : decode prog_13_method_7_code 54 = .ok (.iconst (-1), 1) := by decide +kernel
theorem d_Mo_cutAt_55 : decode prog_13_method_7_code 55 = .ok (.ireturn, 1) := by decide +kernel
theorem d_Mo_claim_0 : decode prog_13_method_9_code 0 = .ok (.aload_n 0, 1) := by decide +kernel
theorem d_Mo_claim_1 : decode prog_13_method_9_code 1 = .ok (.iload_n 1, 1) := by decide +kernel
theorem d_Mo_claim_2 : decode prog_13_method_9_code 2 = .ok (.iload_n 2, 1) := by decide +kernel
theorem d_Mo_claim_3 : decode prog_13_method_9_code 3 = .ok (.invokevirtual 106, 3) := by decide +kernel
theorem d_Mo_claim_6 : decode prog_13_method_9_code 6 = .ok (.istore 6, 2) := by decide +kernel
theorem d_Mo_claim_8 : decode prog_13_method_9_code 8 = .ok (.iload 6, 2) := by decide +kernel
theorem d_Mo_claim_10 : decode prog_13_method_9_code 10 = .ok (.ifCond .lt 49, 3) := by decide +kernel
theorem d_Mo_claim_13 : decode prog_13_method_9_code 13 = .ok (.iload_n 3, 1) := by decide +kernel
theorem d_Mo_claim_14 : decode prog_13_method_9_code 14 = .ok (.i2l, 1) := by decide +kernel
theorem d_Mo_claim_15 : decode prog_13_method_9_code 15 = .ok (.lconst 0, 1) := by decide +kernel
theorem d_Mo_claim_16 : decode prog_13_method_9_code 16 = .ok (.ldc2_w 110, 3) := by decide +kernel
theorem d_Mo_claim_19 : decode prog_13_method_9_code 19 = .ok (.invokestatic 86, 3) := by decide +kernel
theorem d_Mo_claim_22 : decode prog_13_method_9_code 22 = .ok (.ifCond .eq 37, 3) := by decide +kernel
theorem d_Mo_claim_25 : decode prog_13_method_9_code 25 = .ok (.iload 4, 2) := by decide +kernel
theorem d_Mo_claim_27 : decode prog_13_method_9_code 27 = .ok (.i2l, 1) := by decide +kernel
theorem d_Mo_claim_28 : decode prog_13_method_9_code 28 = .ok (.lconst 0, 1) := by decide +kernel
theorem d_Mo_claim_29 : decode prog_13_method_9_code 29 = .ok (.ldc2_w 110, 3) := by decide +kernel
theorem d_Mo_claim_32 : decode prog_13_method_9_code 32 = .ok (.invokestatic 86, 3) := by decide +kernel
theorem d_Mo_claim_35 : decode prog_13_method_9_code 35 = .ok (.ifCond .eq 24, 3) := by decide +kernel
theorem d_Mo_claim_38 : decode prog_13_method_9_code 38 = .ok (.iload_n 3, 1) := by decide +kernel
theorem d_Mo_claim_39 : decode prog_13_method_9_code 39 = .ok (.iload 4, 2) := by decide +kernel
theorem d_Mo_claim_41 : decode prog_13_method_9_code 41 = .ok (.if_icmp .eq 18, 3) := by decide +kernel
theorem d_Mo_claim_44 : decode prog_13_method_9_code 44 = .ok (.iload 5, 2) := by decide +kernel
theorem d_Mo_claim_46 : decode prog_13_method_9_code 46 = .ok (.i2l, 1) := by decide +kernel
theorem d_Mo_claim_47 : decode prog_13_method_9_code 47 = .ok (.ldc2_w 92, 3) := by decide +kernel
theorem d_Mo_claim_50 : decode prog_13_method_9_code 50 = .ok (.ldc2_w 94, 3) := by decide +kernel
theorem d_Mo_claim_53 : decode prog_13_method_9_code 53 = .ok (.invokestatic 86, 3) := by decide +kernel
theorem d_Mo_claim_56 : decode prog_13_method_9_code 56 = .ok (.ifCond .ne 5, 3) := by decide +kernel
theorem d_Mo_claim_59 : decode prog_13_method_9_code 59 = .ok (.iconst 0, 1) := by decide +kernel
theorem d_Mo_claim_60 : decode prog_13_method_9_code 60 = .ok (.ireturn, 1) := by decide +kernel
theorem d_Mo_claim_61 : decode prog_13_method_9_code 61 = .ok (.aload_n 0, 1) := by decide +kernel
theorem d_Mo_claim_62 : decode prog_13_method_9_code 62 = .ok (.getfield 29, 3) := by decide +kernel
theorem d_Mo_claim_65 : decode prog_13_method_9_code 65 = .ok (.iload 6, 2) := by decide +kernel
theorem d_Mo_claim_67 : decode prog_13_method_9_code 67 = .ok (.iaload, 1) := by decide +kernel
theorem d_Mo_claim_68 : decode prog_13_method_9_code 68 = .ok (.bipush 6, 2) := by decide +kernel
theorem d_Mo_claim_70 : decode prog_13_method_9_code 70 = .ok (.if_icmp .ne 5, 3) := by decide +kernel
theorem d_Mo_claim_73 : decode prog_13_method_9_code 73 = .ok (.iconst 0, 1) := by decide +kernel
theorem d_Mo_claim_74 : decode prog_13_method_9_code 74 = .ok (.ireturn, 1) := by decide +kernel
theorem d_Mo_claim_75 : decode prog_13_method_9_code 75 = .ok (.bipush 6, 2) := by decide +kernel
theorem d_Mo_claim_77 : decode prog_13_method_9_code 77 = .ok (.iload 6, 2) := by decide +kernel
theorem d_Mo_claim_79 : decode prog_13_method_9_code 79 = .ok (.imul, 1) := by decide +kernel
theorem d_Mo_claim_80 : decode prog_13_method_9_code 80 = .ok (.aload_n 0, 1) := by decide +kernel
theorem d_Mo_claim_81 : decode prog_13_method_9_code 81 = .ok (.getfield 29, 3) := by decide +kernel
theorem d_Mo_claim_84 : decode prog_13_method_9_code 84 = .ok (.iload 6, 2) := by decide +kernel
theorem d_Mo_claim_86 : decode prog_13_method_9_code 86 = .ok (.iaload, 1) := by decide +kernel
theorem d_Mo_claim_87 : decode prog_13_method_9_code 87 = .ok (.iadd, 1) := by decide +kernel
theorem d_Mo_claim_88 : decode prog_13_method_9_code 88 = .ok (.istore 7, 2) := by decide +kernel
theorem d_Mo_claim_90 : decode prog_13_method_9_code 90 = .ok (.aload_n 0, 1) := by decide +kernel
theorem d_Mo_claim_91 : decode prog_13_method_9_code 91 = .ok (.getfield 32, 3) := by decide +kernel
theorem d_Mo_claim_94 : decode prog_13_method_9_code 94 = .ok (.iload 7, 2) := by decide +kernel
theorem d_Mo_claim_96 : decode prog_13_method_9_code 96 = .ok (.iload_n 3, 1) := by decide +kernel
theorem d_Mo_claim_97 : decode prog_13_method_9_code 97 = .ok (.iastore, 1) := by decide +kernel
theorem d_Mo_claim_98 : decode prog_13_method_9_code 98 = .ok (.aload_n 0, 1) := by decide +kernel
theorem d_Mo_claim_99 : decode prog_13_method_9_code 99 = .ok (.getfield 35, 3) := by decide +kernel
theorem d_Mo_claim_102 : decode prog_13_method_9_code 102 = .ok (.iload 7, 2) := by decide +kernel
theorem d_Mo_claim_104 : decode prog_13_method_9_code 104 = .ok (.iload 4, 2) := by decide +kernel
theorem d_Mo_claim_106 : decode prog_13_method_9_code 106 = .ok (.iastore, 1) := by decide +kernel
theorem d_Mo_claim_107 : decode prog_13_method_9_code 107 = .ok (.aload_n 0, 1) := by decide +kernel
theorem d_Mo_claim_108 : decode prog_13_method_9_code 108 = .ok (.getfield 38, 3) := by decide +kernel
theorem d_Mo_claim_111 : decode prog_13_method_9_code 111 = .ok (.iload 7, 2) := by decide +kernel
theorem d_Mo_claim_113 : decode prog_13_method_9_code 113 = .ok (.iload 5, 2) := by decide +kernel
theorem d_Mo_claim_115 : decode prog_13_method_9_code 115 = .ok (.iastore, 1) := by decide +kernel
theorem d_Mo_claim_116 : decode prog_13_method_9_code 116 = .ok (.aload_n 0, 1) := by decide +kernel
theorem d_Mo_claim_117 : decode prog_13_method_9_code 117 = .ok (.getfield 29, 3) := by decide +kernel
theorem d_Mo_claim_120 : decode prog_13_method_9_code 120 = .ok (.iload 6, 2) := by decide +kernel
theorem d_Mo_claim_122 : decode prog_13_method_9_code 122 = .ok (.dup2, 1) := by decide +kernel
theorem d_Mo_claim_123 : decode prog_13_method_9_code 123 = .ok (.iaload, 1) := by decide +kernel
theorem d_Mo_claim_124 : decode prog_13_method_9_code 124 = .ok (.iconst 1, 1) := by decide +kernel
theorem d_Mo_claim_125 : decode prog_13_method_9_code 125 = .ok (.iadd, 1) := by decide +kernel
theorem d_Mo_claim_126 : decode prog_13_method_9_code 126 = .ok (.iastore, 1) := by decide +kernel
theorem d_Mo_claim_127 : decode prog_13_method_9_code 127 = .ok (.aload_n 0, 1) := by decide +kernel
theorem d_Mo_claim_128 : decode prog_13_method_9_code 128 = .ok (.iload_n 1, 1) := by decide +kernel
theorem d_Mo_claim_129 : decode prog_13_method_9_code 129 = .ok (.invokevirtual 96, 3) := by decide +kernel
theorem d_Mo_claim_132 : decode prog_13_method_9_code 132 = .ok (.iconst 1, 1) := by decide +kernel
theorem d_Mo_claim_133 : decode prog_13_method_9_code 133 = .ok (.ireturn, 1) := by decide +kernel
theorem d_Mo_base_0 : decode prog_13_method_10_code 0 = .ok (.aload_n 0, 1) := by decide +kernel
theorem d_Mo_base_1 : decode prog_13_method_10_code 1 = .ok (.iload_n 1, 1) := by decide +kernel
theorem d_Mo_base_2 : decode prog_13_method_10_code 2 = .ok (.iload_n 2, 1) := by decide +kernel
theorem d_Mo_base_3 : decode prog_13_method_10_code 3 = .ok (.invokevirtual 106, 3) := by decide +kernel
theorem d_Mo_base_6 : decode prog_13_method_10_code 6 = .ok (.istore 5, 2) := by decide +kernel
theorem d_Mo_base_8 : decode prog_13_method_10_code 8 = .ok (.iload 5, 2) := by decide +kernel
theorem d_Mo_base_10 : decode prog_13_method_10_code 10 = .ok (.ifCond .lt 28, 3) := by decide +kernel
theorem d_Mo_base_13 : decode prog_13_method_10_code 13 = .ok (.iload_n 3, 1) := by decide +kernel
theorem d_Mo_base_14 : decode prog_13_method_10_code 14 = .ok (.i2l, 1) := by decide +kernel
theorem d_Mo_base_15 : decode prog_13_method_10_code 15 = .ok (.lconst 0, 1) := by decide +kernel
theorem d_Mo_base_16 : decode prog_13_method_10_code 16 = .ok (.lconst 1, 1) := by decide +kernel
theorem d_Mo_base_17 : decode prog_13_method_10_code 17 = .ok (.invokestatic 86, 3) := by decide +kernel
theorem d_Mo_base_20 : decode prog_13_method_10_code 20 = .ok (.ifCond .eq 18, 3) := by decide +kernel
theorem d_Mo_base_23 : decode prog_13_method_10_code 23 = .ok (.iload 4, 2) := by decide +kernel
theorem d_Mo_base_25 : decode prog_13_method_10_code 25 = .ok (.i2l, 1) := by decide +kernel
theorem d_Mo_base_26 : decode prog_13_method_10_code 26 = .ok (.ldc2_w 112, 3) := by decide +kernel
theorem d_Mo_base_29 : decode prog_13_method_10_code 29 = .ok (.ldc2_w 114, 3) := by decide +kernel
theorem d_Mo_base_32 : decode prog_13_method_10_code 32 = .ok (.invokestatic 86, 3) := by decide +kernel
theorem d_Mo_base_35 : decode prog_13_method_10_code 35 = .ok (.ifCond .ne 5, 3) := by decide +kernel
theorem d_Mo_base_38 : decode prog_13_method_10_code 38 = .ok (.iconst 0, 1) := by decide +kernel
theorem d_Mo_base_39 : decode prog_13_method_10_code 39 = .ok (.ireturn, 1) := by decide +kernel
theorem d_Mo_base_40 : decode prog_13_method_10_code 40 = .ok (.aload_n 0, 1) := by decide +kernel
theorem d_Mo_base_41 : decode prog_13_method_10_code 41 = .ok (.getfield 41, 3) := by decide +kernel
theorem d_Mo_base_44 : decode prog_13_method_10_code 44 = .ok (.iconst 2, 1) := by decide +kernel
theorem d_Mo_base_45 : decode prog_13_method_10_code 45 = .ok (.iload 5, 2) := by decide +kernel
theorem d_Mo_base_47 : decode prog_13_method_10_code 47 = .ok (.imul, 1) := by decide +kernel
theorem d_Mo_base_48 : decode prog_13_method_10_code 48 = .ok (.iload_n 3, 1) := by decide +kernel
theorem d_Mo_base_49 : decode prog_13_method_10_code 49 = .ok (.iadd, 1) := by decide +kernel
theorem d_Mo_base_50 : decode prog_13_method_10_code 50 = .ok (.iload 4, 2) := by decide +kernel
theorem d_Mo_base_52 : decode prog_13_method_10_code 52 = .ok (.iastore, 1) := by decide +kernel
theorem d_Mo_base_53 : decode prog_13_method_10_code 53 = .ok (.aload_n 0, 1) := by decide +kernel
theorem d_Mo_base_54 : decode prog_13_method_10_code 54 = .ok (.iload_n 1, 1) := by decide +kernel
theorem d_Mo_base_55 : decode prog_13_method_10_code 55 = .ok (.invokevirtual 96, 3) := by decide +kernel
theorem d_Mo_base_58 : decode prog_13_method_10_code 58 = .ok (.iconst 1, 1) := by decide +kernel
theorem d_Mo_base_59 : decode prog_13_method_10_code 59 = .ok (.ireturn, 1) := by decide +kernel
theorem d_Mo_term_0 : decode prog_13_method_11_code 0 = .ok (.aload_n 0, 1) := by decide +kernel
theorem d_Mo_term_1 : decode prog_13_method_11_code 1 = .ok (.iload_n 1, 1) := by decide +kernel
theorem d_Mo_term_2 : decode prog_13_method_11_code 2 = .ok (.iload_n 2, 1) := by decide +kernel
theorem d_Mo_term_3 : decode prog_13_method_11_code 3 = .ok (.invokevirtual 106, 3) := by decide +kernel
theorem d_Mo_term_6 : decode prog_13_method_11_code 6 = .ok (.istore 6, 2) := by decide +kernel
theorem d_Mo_term_8 : decode prog_13_method_11_code 8 = .ok (.iload 6, 2) := by decide +kernel
theorem d_Mo_term_10 : decode prog_13_method_11_code 10 = .ok (.ifCond .lt 50, 3) := by decide +kernel
theorem d_Mo_term_13 : decode prog_13_method_11_code 13 = .ok (.iload_n 3, 1) := by decide +kernel
theorem d_Mo_term_14 : decode prog_13_method_11_code 14 = .ok (.i2l, 1) := by decide +kernel
theorem d_Mo_term_15 : decode prog_13_method_11_code 15 = .ok (.lconst 0, 1) := by decide +kernel
theorem d_Mo_term_16 : decode prog_13_method_11_code 16 = .ok (.lconst 1, 1) := by decide +kernel
theorem d_Mo_term_17 : decode prog_13_method_11_code 17 = .ok (.invokestatic 86, 3) := by decide +kernel
theorem d_Mo_term_20 : decode prog_13_method_11_code 20 = .ok (.ifCond .eq 40, 3) := by decide +kernel
theorem d_Mo_term_23 : decode prog_13_method_11_code 23 = .ok (.iload 4, 2) := by decide +kernel
theorem d_Mo_term_25 : decode prog_13_method_11_code 25 = .ok (.i2l, 1) := by decide +kernel
theorem d_Mo_term_26 : decode prog_13_method_11_code 26 = .ok (.lconst 1, 1) := by decide +kernel
theorem d_Mo_term_27 : decode prog_13_method_11_code 27 = .ok (.ldc2_w 116, 3) := by decide +kernel
theorem d_Mo_term_30 : decode prog_13_method_11_code 30 = .ok (.invokestatic 86, 3) := by decide +kernel
theorem d_Mo_term_33 : decode prog_13_method_11_code 33 = .ok (.ifCond .eq 27, 3) := by decide +kernel
theorem d_Mo_term_36 : decode prog_13_method_11_code 36 = .ok (.iload 5, 2) := by decide +kernel
theorem d_Mo_term_38 : decode prog_13_method_11_code 38 = .ok (.i2l, 1) := by decide +kernel
theorem d_Mo_term_39 : decode prog_13_method_11_code 39 = .ok (.lconst 0, 1) := by decide +kernel
theorem d_Mo_term_40 : decode prog_13_method_11_code 40 = .ok (.ldc2_w 118, 3) := by decide +kernel
theorem d_Mo_term_43 : decode prog_13_method_11_code 43 = .ok (.invokestatic 86, 3) := by decide +kernel
theorem d_Mo_term_46 : decode prog_13_method_11_code 46 = .ok (.ifCond .eq 14, 3) := by decide +kernel
theorem d_Mo_term_49 : decode prog_13_method_11_code 49 = .ok (.iload 5, 2) := by decide +kernel
theorem d_Mo_term_51 : decode prog_13_method_11_code 51 = .ok (.iconst 5, 1) := by decide +kernel
theorem d_Mo_term_52 : decode prog_13_method_11_code 52 = .ok (.idiv, 1) := by decide +kernel
theorem d_Mo_term_53 : decode prog_13_method_11_code 53 = .ok (.iload 5, 2) := by decide +kernel
theorem d_Mo_term_55 : decode prog_13_method_11_code 55 = .ok (.iconst 5, 1) := by decide +kernel
theorem d_Mo_term_56 : decode prog_13_method_11_code 56 = .ok (.irem, 1) := by decide +kernel
theorem d_Mo_term_57 : decode prog_13_method_11_code 57 = .ok (.if_icmp .ne 5, 3) := by decide +kernel
theorem d_Mo_term_60 : decode prog_13_method_11_code 60 = .ok (.iconst 0, 1) := by decide +kernel
theorem d_Mo_term_61 : decode prog_13_method_11_code 61 = .ok (.ireturn, 1) := by decide +kernel
theorem d_Mo_term_62 : decode prog_13_method_11_code 62 = .ok (.iconst 2, 1) := by decide +kernel
theorem d_Mo_term_63 : decode prog_13_method_11_code 63 = .ok (.iload 6, 2) := by decide +kernel
theorem d_Mo_term_65 : decode prog_13_method_11_code 65 = .ok (.imul, 1) := by decide +kernel
theorem d_Mo_term_66 : decode prog_13_method_11_code 66 = .ok (.iload_n 3, 1) := by decide +kernel
theorem d_Mo_term_67 : decode prog_13_method_11_code 67 = .ok (.iadd, 1) := by decide +kernel
theorem d_Mo_term_68 : decode prog_13_method_11_code 68 = .ok (.istore 7, 2) := by decide +kernel
theorem d_Mo_term_70 : decode prog_13_method_11_code 70 = .ok (.aload_n 0, 1) := by decide +kernel
theorem d_Mo_term_71 : decode prog_13_method_11_code 71 = .ok (.getfield 44, 3) := by decide +kernel
theorem d_Mo_term_74 : decode prog_13_method_11_code 74 = .ok (.iload 7, 2) := by decide +kernel
theorem d_Mo_term_76 : decode prog_13_method_11_code 76 = .ok (.iaload, 1) := by decide +kernel
theorem d_Mo_term_77 : decode prog_13_method_11_code 77 = .ok (.iconst 3, 1) := by decide +kernel
theorem d_Mo_term_78 : decode prog_13_method_11_code 78 = .ok (.if_icmp .ne 5, 3) := by decide +kernel
theorem d_Mo_term_81 : decode prog_13_method_11_code 81 = .ok (.iconst 0, 1) := by decide +kernel
theorem d_Mo_term_82 : decode prog_13_method_11_code 82 = .ok (.ireturn, 1) := by decide +kernel
theorem d_Mo_term_83 : decode prog_13_method_11_code 83 = .ok (.aload_n 0, 1) := by decide +kernel
theorem d_Mo_term_84 : decode prog_13_method_11_code 84 = .ok (.getfield 47, 3) := by decide +kernel
theorem d_Mo_term_87 : decode prog_13_method_11_code 87 = .ok (.iconst 3, 1) := by decide +kernel
theorem d_Mo_term_88 : decode prog_13_method_11_code 88 = .ok (.iload 7, 2) := by decide +kernel
theorem d_Mo_term_90 : decode prog_13_method_11_code 90 = .ok (.imul, 1) := by decide +kernel
theorem d_Mo_term_91 : decode prog_13_method_11_code 91 = .ok (.aload_n 0, 1) := by decide +kernel
theorem d_Mo_term_92 : decode prog_13_method_11_code 92 = .ok (.getfield 44, 3) := by decide +kernel
theorem d_Mo_term_95 : decode prog_13_method_11_code 95 = .ok (.iload 7, 2) := by decide +kernel
theorem d_Mo_term_97 : decode prog_13_method_11_code 97 = .ok (.iaload, 1) := by decide +kernel
theorem d_Mo_term_98 : decode prog_13_method_11_code 98 = .ok (.iadd, 1) := by decide +kernel
theorem d_Mo_term_99 : decode prog_13_method_11_code 99 = .ok (.iload 4, 2) := by decide +kernel
theorem d_Mo_term_101 : decode prog_13_method_11_code 101 = .ok (.iastore, 1) := by decide +kernel
theorem d_Mo_term_102 : decode prog_13_method_11_code 102 = .ok (.aload_n 0, 1) := by decide +kernel
theorem d_Mo_term_103 : decode prog_13_method_11_code 103 = .ok (.getfield 50, 3) := by decide +kernel
theorem d_Mo_term_106 : decode prog_13_method_11_code 106 = .ok (.iconst 3, 1) := by decide +kernel
theorem d_Mo_term_107 : decode prog_13_method_11_code 107 = .ok (.iload 7, 2) := by decide +kernel
theorem d_Mo_term_109 : decode prog_13_method_11_code 109 = .ok (.imul, 1) := by decide +kernel
theorem d_Mo_term_110 : decode prog_13_method_11_code 110 = .ok (.aload_n 0, 1) := by decide +kernel
theorem d_Mo_term_111 : decode prog_13_method_11_code 111 = .ok (.getfield 44, 3) := by decide +kernel
theorem d_Mo_term_114 : decode prog_13_method_11_code 114 = .ok (.iload 7, 2) := by decide +kernel
theorem d_Mo_term_116 : decode prog_13_method_11_code 116 = .ok (.iaload, 1) := by decide +kernel
theorem d_Mo_term_117 : decode prog_13_method_11_code 117 = .ok (.iadd, 1) := by decide +kernel
theorem d_Mo_term_118 : decode prog_13_method_11_code 118 = .ok (.iload 5, 2) := by decide +kernel
theorem d_Mo_term_120 : decode prog_13_method_11_code 120 = .ok (.iconst 5, 1) := by decide +kernel
theorem d_Mo_term_121 : decode prog_13_method_11_code 121 = .ok (.idiv, 1) := by decide +kernel
theorem d_Mo_term_122 : decode prog_13_method_11_code 122 = .ok (.iastore, 1) := by decide +kernel
theorem d_Mo_term_123 : decode prog_13_method_11_code 123 = .ok (.aload_n 0, 1) := by decide +kernel
theorem d_Mo_term_124 : decode prog_13_method_11_code 124 = .ok (.getfield 53, 3) := by decide +kernel
theorem d_Mo_term_127 : decode prog_13_method_11_code 127 = .ok (.iconst 3, 1) := by decide +kernel
theorem d_Mo_term_128 : decode prog_13_method_11_code 128 = .ok (.iload 7, 2) := by decide +kernel
theorem d_Mo_term_130 : decode prog_13_method_11_code 130 = .ok (.imul, 1) := by decide +kernel
theorem d_Mo_term_131 : decode prog_13_method_11_code 131 = .ok (.aload_n 0, 1) := by decide +kernel
theorem d_Mo_term_132 : decode prog_13_method_11_code 132 = .ok (.getfield 44, 3) := by decide +kernel
theorem d_Mo_term_135 : decode prog_13_method_11_code 135 = .ok (.iload 7, 2) := by decide +kernel
theorem d_Mo_term_137 : decode prog_13_method_11_code 137 = .ok (.iaload, 1) := by decide +kernel
theorem d_Mo_term_138 : decode prog_13_method_11_code 138 = .ok (.iadd, 1) := by decide +kernel
theorem d_Mo_term_139 : decode prog_13_method_11_code 139 = .ok (.iload 5, 2) := by decide +kernel
theorem d_Mo_term_141 : decode prog_13_method_11_code 141 = .ok (.iconst 5, 1) := by decide +kernel
theorem d_Mo_term_142 : decode prog_13_method_11_code 142 = .ok (.irem, 1) := by decide +kernel
theorem d_Mo_term_143 : decode prog_13_method_11_code 143 = .ok (.iastore, 1) := by decide +kernel
theorem d_Mo_term_144 : decode prog_13_method_11_code 144 = .ok (.aload_n 0, 1) := by decide +kernel
theorem d_Mo_term_145 : decode prog_13_method_11_code 145 = .ok (.getfield 44, 3) := by decide +kernel
theorem d_Mo_term_148 : decode prog_13_method_11_code 148 = .ok (.iload 7, 2) := by decide +kernel
theorem d_Mo_term_150 : decode prog_13_method_11_code 150 = .ok (.dup2, 1) := by decide +kernel
theorem d_Mo_term_151 : decode prog_13_method_11_code 151 = .ok (.iaload, 1) := by decide +kernel
theorem d_Mo_term_152 : decode prog_13_method_11_code 152 = .ok (.iconst 1, 1) := by decide +kernel
theorem d_Mo_term_153 : decode prog_13_method_11_code 153 = .ok (.iadd, 1) := by decide +kernel
theorem d_Mo_term_154 : decode prog_13_method_11_code 154 = .ok (.iastore, 1) := by decide +kernel
theorem d_Mo_term_155 : decode prog_13_method_11_code 155 = .ok (.aload_n 0, 1) := by decide +kernel
theorem d_Mo_term_156 : decode prog_13_method_11_code 156 = .ok (.iload_n 1, 1) := by decide +kernel
theorem d_Mo_term_157 : decode prog_13_method_11_code 157 = .ok (.invokevirtual 96, 3) := by decide +kernel
theorem d_Mo_term_160 : decode prog_13_method_11_code 160 = .ok (.iconst 1, 1) := by decide +kernel
theorem d_Mo_term_161 : decode prog_13_method_11_code 161 = .ok (.ireturn, 1) := by decide +kernel
theorem d_Mo_check_0 : decode prog_13_method_19_code 0 = .ok (.iload_n 1, 1) := by decide +kernel
theorem d_Mo_check_1 : decode prog_13_method_19_code 1 = .ok (.i2l, 1) := by decide +kernel
theorem d_Mo_check_2 : decode prog_13_method_19_code 2 = .ok (.lconst 0, 1) := by decide +kernel
theorem d_Mo_check_3 : decode prog_13_method_19_code 3 = .ok (.ldc2_w 84, 3) := by decide +kernel
theorem d_Mo_check_6 : decode prog_13_method_19_code 6 = .ok (.invokestatic 86, 3) := by decide +kernel
theorem d_Mo_check_9 : decode prog_13_method_19_code 9 = .ok (.ifCond .ne 5, 3) := by decide +kernel
theorem d_Mo_check_12 : decode prog_13_method_19_code 12 = .ok (.iconst (-1), 1) := by decide +kernel
theorem d_Mo_check_13 : decode prog_13_method_19_code 13 = .ok (.ireturn, 1) := by decide +kernel
theorem d_Mo_check_14 : decode prog_13_method_19_code 14 = .ok (.aload_n 0, 1) := by decide +kernel
theorem d_Mo_check_15 : decode prog_13_method_19_code 15 = .ok (.getfield 7, 3) := by decide +kernel
theorem d_Mo_check_18 : decode prog_13_method_19_code 18 = .ok (.iload_n 1, 1) := by decide +kernel
theorem d_Mo_check_19 : decode prog_13_method_19_code 19 = .ok (.iaload, 1) := by decide +kernel
theorem d_Mo_check_20 : decode prog_13_method_19_code 20 = .ok (.ifCond .ne 12, 3) := by decide +kernel
theorem d_Mo_check_23 : decode prog_13_method_19_code 23 = .ok (.aload_n 0, 1) := by decide +kernel
theorem d_Mo_check_24 : decode prog_13_method_19_code 24 = .ok (.getfield 19, 3) := by decide +kernel
theorem d_Mo_check_27 : decode prog_13_method_19_code 27 = .ok (.iload_n 1, 1) := by decide +kernel
theorem d_Mo_check_28 : decode prog_13_method_19_code 28 = .ok (.iconst 0, 1) := by decide +kernel
theorem d_Mo_check_29 : decode prog_13_method_19_code 29 = .ok (.bastore, 1) := by decide +kernel
theorem d_Mo_check_30 : decode prog_13_method_19_code 30 = .ok (.iconst 2, 1) := by decide +kernel
theorem d_Mo_check_31 : decode prog_13_method_19_code 31 = .ok (.ireturn, 1) := by decide +kernel
theorem d_Mo_check_32 : decode prog_13_method_19_code 32 = .ok (.iconst 0, 1) := by decide +kernel
theorem d_Mo_check_33 : decode prog_13_method_19_code 33 = .ok (.istore_n 2, 1) := by decide +kernel
theorem d_Mo_check_34 : decode prog_13_method_19_code 34 = .ok (.iconst 0, 1) := by decide +kernel
theorem d_Mo_check_35 : decode prog_13_method_19_code 35 = .ok (.istore_n 3, 1) := by decide +kernel
theorem d_Mo_check_36 : decode prog_13_method_19_code 36 = .ok (.iload_n 3, 1) := by decide +kernel
theorem d_Mo_check_37 : decode prog_13_method_19_code 37 = .ok (.bipush 24, 2) := by decide +kernel
theorem d_Mo_check_39 : decode prog_13_method_19_code 39 = .ok (.if_icmp .ge 56, 3) := by decide +kernel
theorem d_Mo_check_42 : decode prog_13_method_19_code 42 = .ok (.iload_n 2, 1) := by decide +kernel
theorem d_Mo_check_43 : decode prog_13_method_19_code 43 = .ok (.ifCond .ne 52, 3) := by decide +kernel
theorem d_Mo_check_46 : decode prog_13_method_19_code 46 = .ok (.aload_n 0, 1) := by decide +kernel
theorem d_Mo_check_47 : decode prog_13_method_19_code 47 = .ok (.iload_n 1, 1) := by decide +kernel
theorem d_Mo_check_48 : decode prog_13_method_19_code 48 = .ok (.iload_n 3, 1) := by decide +kernel
theorem d_Mo_check_49 : decode prog_13_method_19_code 49 = .ok (.invokevirtual 106, 3) := by decide +kernel
theorem d_Mo_check_52 : decode prog_13_method_19_code 52 = .ok (.istore 4, 2) := by decide +kernel
theorem d_Mo_check_54 : decode prog_13_method_19_code 54 = .ok (.iload 4, 2) := by decide +kernel
theorem d_Mo_check_56 : decode prog_13_method_19_code 56 = .ok (.ifCond .ge 7, 3) := by decide +kernel
theorem d_Mo_check_59 : decode prog_13_method_19_code 59 = .ok (.iconst 0, 1) := by decide +kernel
theorem d_Mo_check_60 : decode prog_13_method_19_code 60 = .ok (.goto 10, 3) := by decide +kernel
theorem d_Mo_check_63 : decode prog_13_method_19_code 63 = .ok (.aload_n 0, 1) := by decide +kernel
theorem d_Mo_check_64 : decode prog_13_method_19_code 64 = .ok (.iload_n 1, 1) := by decide +kernel
theorem d_Mo_check_65 : decode prog_13_method_19_code 65 = .ok (.iload 4, 2) := by decide +kernel
theorem d_Mo_check_67 : decode prog_13_method_19_code 67 = .ok (.invokevirtual 128, 3) := by decide +kernel
theorem d_Mo_check_70 : decode prog_13_method_19_code 70 = .ok (.istore 5, 2) := by decide +kernel
theorem d_Mo_check_72 : decode prog_13_method_19_code 72 = .ok (.iload 5, 2) := by decide +kernel
theorem d_Mo_check_74 : decode prog_13_method_19_code 74 = .ok (.ifCond .ne 7, 3) := by decide +kernel
theorem d_Mo_check_77 : decode prog_13_method_19_code 77 = .ok (.iconst 0, 1) := by decide +kernel
theorem d_Mo_check_78 : decode prog_13_method_19_code 78 = .ok (.goto 10, 3) := by decide +kernel
theorem d_Mo_check_81 : decode prog_13_method_19_code 81 = .ok (.bipush 100, 2) := by decide +kernel
theorem d_Mo_check_83 : decode prog_13_method_19_code 83 = .ok (.iload_n 3, 1) := by decide +kernel
theorem d_Mo_check_84 : decode prog_13_method_19_code 84 = .ok (.imul, 1) := by decide +kernel
theorem d_Mo_check_85 : decode prog_13_method_19_code 85 = .ok (.iload 5, 2) := by decide +kernel
theorem d_Mo_check_87 : decode prog_13_method_19_code 87 = .ok (.iadd, 1) := by decide +kernel
theorem d_Mo_check_88 : decode prog_13_method_19_code 88 = .ok (.istore_n 2, 1) := by decide +kernel
theorem d_Mo_check_89 : decode prog_13_method_19_code 89 = .ok (.iinc 3 1, 3) := by decide +kernel
theorem d_Mo_check_92 : decode prog_13_method_19_code 92 = .ok (.goto (-56), 3) := by decide +kernel
theorem d_Mo_check_95 : decode prog_13_method_19_code 95 = .ok (.aload_n 0, 1) := by decide +kernel
theorem d_Mo_check_96 : decode prog_13_method_19_code 96 = .ok (.getfield 19, 3) := by decide +kernel
theorem d_Mo_check_99 : decode prog_13_method_19_code 99 = .ok (.iload_n 1, 1) := by decide +kernel
theorem d_Mo_check_100 : decode prog_13_method_19_code 100 = .ok (.iload_n 2, 1) := by decide +kernel
theorem d_Mo_check_101 : decode prog_13_method_19_code 101 = .ok (.ifCond .ne 7, 3) := by decide +kernel
theorem d_Mo_check_104 : decode prog_13_method_19_code 104 = .ok (.iconst 1, 1) := by decide +kernel
theorem d_Mo_check_105 : decode prog_13_method_19_code 105 = .ok (.goto 4, 3) := by decide +kernel
theorem d_Mo_check_108 : decode prog_13_method_19_code 108 = .ok (.iconst 0, 1) := by decide +kernel
theorem d_Mo_check_109 : decode prog_13_method_19_code 109 = .ok (.bastore, 1) := by decide +kernel
theorem d_Mo_check_110 : decode prog_13_method_19_code 110 = .ok (.iload_n 2, 1) := by decide +kernel
theorem d_Mo_check_111 : decode prog_13_method_19_code 111 = .ok (.ireturn, 1) := by decide +kernel
theorem d_Mo_checkCut_0 : decode prog_13_method_21_code 0 = .ok (.aload_n 0, 1) := by decide +kernel
theorem d_Mo_checkCut_1 : decode prog_13_method_21_code 1 = .ok (.iload_n 2, 1) := by decide +kernel
theorem d_Mo_checkCut_2 : decode prog_13_method_21_code 2 = .ok (.invokevirtual 139, 3) := by decide +kernel
theorem d_Mo_checkCut_5 : decode prog_13_method_21_code 5 = .ok (.aload_n 0, 1) := by decide +kernel
theorem d_Mo_checkCut_6 : decode prog_13_method_21_code 6 = .ok (.iconst 0, 1) := by decide +kernel
theorem d_Mo_checkCut_7 : decode prog_13_method_21_code 7 = .ok (.invokevirtual 142, 3) := by decide +kernel
theorem d_Mo_checkCut_10 : decode prog_13_method_21_code 10 = .ok (.ifCond .ne 5, 3) := by decide +kernel
theorem d_Mo_checkCut_13 : decode prog_13_method_21_code 13 = .ok (.iconst 0, 1) := by decide +kernel
theorem d_Mo_checkCut_14 : decode prog_13_method_21_code 14 = .ok (.ireturn, 1) := by decide +kernel
theorem d_Mo_checkCut_15 : decode prog_13_method_21_code 15 = .ok (.aload_n 0, 1) := by decide +kernel
theorem d_Mo_checkCut_16 : decode prog_13_method_21_code 16 = .ok (.iconst 2, 1) := by decide +kernel
theorem d_Mo_checkCut_17 : decode prog_13_method_21_code 17 = .ok (.iload_n 2, 1) := by decide +kernel
theorem d_Mo_checkCut_18 : decode prog_13_method_21_code 18 = .ok (.imul, 1) := by decide +kernel
theorem d_Mo_checkCut_19 : decode prog_13_method_21_code 19 = .ok (.invokevirtual 146, 3) := by decide +kernel
theorem d_Mo_checkCut_22 : decode prog_13_method_21_code 22 = .ok (.ifCond .ne 15, 3) := by decide +kernel
theorem d_Mo_checkCut_25 : decode prog_13_method_21_code 25 = .ok (.aload_n 0, 1) := by decide +kernel
theorem d_Mo_checkCut_26 : decode prog_13_method_21_code 26 = .ok (.iconst 2, 1) := by decide +kernel
theorem d_Mo_checkCut_27 : decode prog_13_method_21_code 27 = .ok (.iload_n 2, 1) := by decide +kernel
theorem d_Mo_checkCut_28 : decode prog_13_method_21_code 28 = .ok (.imul, 1) := by decide +kernel
theorem d_Mo_checkCut_29 : decode prog_13_method_21_code 29 = .ok (.iconst 1, 1) := by decide +kernel
theorem d_Mo_checkCut_30 : decode prog_13_method_21_code 30 = .ok (.iadd, 1) := by decide +kernel
theorem d_Mo_checkCut_31 : decode prog_13_method_21_code 31 = .ok (.invokevirtual 146, 3) := by decide +kernel
theorem d_Mo_checkCut_34 : decode prog_13_method_21_code 34 = .ok (.ifCond .eq 5, 3) := by decide +kernel
theorem d_Mo_checkCut_37 : decode prog_13_method_21_code 37 = .ok (.iconst 1, 1) := by decide +kernel
theorem d_Mo_checkCut_38 : decode prog_13_method_21_code 38 = .ok (.ireturn, 1) := by decide +kernel
theorem d_Mo_checkCut_39 : decode prog_13_method_21_code 39 = .ok (.aload_n 0, 1) := by decide +kernel
theorem d_Mo_checkCut_40 : decode prog_13_method_21_code 40 = .ok (.iconst 1, 1) := by decide +kernel
theorem d_Mo_checkCut_41 : decode prog_13_method_21_code 41 = .ok (.putfield 149, 3) := by decide +kernel
theorem d_Mo_checkCut_44 : decode prog_13_method_21_code 44 = .ok (.aload_n 0, 1) := by decide +kernel
theorem d_Mo_checkCut_45 : decode prog_13_method_21_code 45 = .ok (.iconst 0, 1) := by decide +kernel
theorem d_Mo_checkCut_46 : decode prog_13_method_21_code 46 = .ok (.putfield 153, 3) := by decide +kernel
theorem d_Mo_checkCut_49 : decode prog_13_method_21_code 49 = .ok (.iconst 0, 1) := by decide +kernel
theorem d_Mo_checkCut_50 : decode prog_13_method_21_code 50 = .ok (.istore_n 3, 1) := by decide +kernel
theorem d_Mo_checkCut_51 : decode prog_13_method_21_code 51 = .ok (.aload_n 0, 1) := by decide +kernel
theorem d_Mo_checkCut_52 : decode prog_13_method_21_code 52 = .ok (.getfield 149, 3) := by decide +kernel
theorem d_Mo_checkCut_55 : decode prog_13_method_21_code 55 = .ok (.ifCond .le 22, 3) := by decide +kernel
theorem d_Mo_checkCut_58 : decode prog_13_method_21_code 58 = .ok (.iload_n 3, 1) := by decide +kernel
theorem d_Mo_checkCut_59 : decode prog_13_method_21_code 59 = .ok (.ifCond .ne 18, 3) := by decide +kernel
theorem d_Mo_checkCut_62 : decode prog_13_method_21_code 62 = .ok (.aload_n 0, 1) := by decide +kernel
theorem d_Mo_checkCut_63 : decode prog_13_method_21_code 63 = .ok (.iload_n 1, 1) := by decide +kernel
theorem d_Mo_checkCut_64 : decode prog_13_method_21_code 64 = .ok (.aload_n 0, 1) := by decide +kernel
theorem d_Mo_checkCut_65 : decode prog_13_method_21_code 65 = .ok (.getfield 149, 3) := by decide +kernel
theorem d_Mo_checkCut_68 : decode prog_13_method_21_code 68 = .ok (.iconst 1, 1) := by decide +kernel
theorem d_Mo_checkCut_69 : decode prog_13_method_21_code 69 = .ok (.isub, 1) := by decide +kernel
theorem d_Mo_checkCut_70 : decode prog_13_method_21_code 70 = .ok (.invokevirtual 156, 3) := by decide +kernel
theorem d_Mo_checkCut_73 : decode prog_13_method_21_code 73 = .ok (.istore_n 3, 1) := by decide +kernel
theorem d_Mo_checkCut_74 : decode prog_13_method_21_code 74 = .ok (.goto (-23), 3) := by decide +kernel
theorem d_Mo_checkCut_77 : decode prog_13_method_21_code 77 = .ok (.iload_n 3, 1) := by decide +kernel
theorem d_Mo_checkCut_78 : decode prog_13_method_21_code 78 = .ok (.ireturn, 1) := by decide +kernel
theorem d_Mo_begin_0 : decode prog_13_method_20_code 0 = .ok (.iconst 0, 1) := by decide +kernel
theorem d_Mo_begin_1 : decode prog_13_method_20_code 1 = .ok (.istore_n 2, 1) := by decide +kernel
theorem d_Mo_begin_2 : decode prog_13_method_20_code 2 = .ok (.iload_n 2, 1) := by decide +kernel
theorem d_Mo_begin_3 : decode prog_13_method_20_code 3 = .ok (.bipush 104, 2) := by decide +kernel
theorem d_Mo_begin_5 : decode prog_13_method_20_code 5 = .ok (.if_icmp .ge 16, 3) := by decide +kernel
theorem d_Mo_begin_8 : decode prog_13_method_20_code 8 = .ok (.aload_n 0, 1) := by decide +kernel
theorem d_Mo_begin_9 : decode prog_13_method_20_code 9 = .ok (.getfield 56, 3) := by decide +kernel
theorem d_Mo_begin_12 : decode prog_13_method_20_code 12 = .ok (.iload_n 2, 1) := by decide +kernel
theorem d_Mo_begin_13 : decode prog_13_method_20_code 13 = .ok (.lconst 0, 1) := by decide +kernel
theorem d_Mo_begin_14 : decode prog_13_method_20_code 14 = .ok (.lastore, 1) := by decide +kernel
theorem d_Mo_begin_15 : decode prog_13_method_20_code 15 = .ok (.iinc 2 1, 3) := by decide +kernel
theorem d_Mo_begin_18 : decode prog_13_method_20_code 18 = .ok (.goto (-16), 3) := by decide +kernel
theorem d_Mo_begin_21 : decode prog_13_method_20_code 21 = .ok (.aload_n 0, 1) := by decide +kernel
theorem d_Mo_begin_22 : decode prog_13_method_20_code 22 = .ok (.getfield 56, 3) := by decide +kernel
theorem d_Mo_begin_25 : decode prog_13_method_20_code 25 = .ok (.iconst 0, 1) := by decide +kernel
theorem d_Mo_begin_26 : decode prog_13_method_20_code 26 = .ok (.aload_n 0, 1) := by decide +kernel
theorem d_Mo_begin_27 : decode prog_13_method_20_code 27 = .ok (.getfield 26, 3) := by decide +kernel
theorem d_Mo_begin_30 : decode prog_13_method_20_code 30 = .ok (.iload_n 1, 1) := by decide +kernel
theorem d_Mo_begin_31 : decode prog_13_method_20_code 31 = .ok (.iaload, 1) := by decide +kernel
theorem d_Mo_begin_32 : decode prog_13_method_20_code 32 = .ok (.i2l, 1) := by decide +kernel
theorem d_Mo_begin_33 : decode prog_13_method_20_code 33 = .ok (.lastore, 1) := by decide +kernel
theorem d_Mo_begin_34 : decode prog_13_method_20_code 34 = .ok (.iconst 0, 1) := by decide +kernel
theorem d_Mo_begin_35 : decode prog_13_method_20_code 35 = .ok (.istore_n 2, 1) := by decide +kernel
theorem d_Mo_begin_36 : decode prog_13_method_20_code 36 = .ok (.iload_n 2, 1) := by decide +kernel
theorem d_Mo_begin_37 : decode prog_13_method_20_code 37 = .ok (.iconst 4, 1) := by decide +kernel
theorem d_Mo_begin_38 : decode prog_13_method_20_code 38 = .ok (.if_icmp .ge 21, 3) := by decide +kernel
theorem d_Mo_begin_41 : decode prog_13_method_20_code 41 = .ok (.aload_n 0, 1) := by decide +kernel
theorem d_Mo_begin_42 : decode prog_13_method_20_code 42 = .ok (.getfield 56, 3) := by decide +kernel
theorem d_Mo_begin_45 : decode prog_13_method_20_code 45 = .ok (.iconst 4, 1) := by decide +kernel
theorem d_Mo_begin_46 : decode prog_13_method_20_code 46 = .ok (.iconst 2, 1) := by decide +kernel
theorem d_Mo_begin_47 : decode prog_13_method_20_code 47 = .ok (.iload_n 2, 1) := by decide +kernel
theorem d_Mo_begin_48 : decode prog_13_method_20_code 48 = .ok (.imul, 1) := by decide +kernel
theorem d_Mo_begin_49 : decode prog_13_method_20_code 49 = .ok (.iadd, 1) := by decide +kernel
theorem d_Mo_begin_50 : decode prog_13_method_20_code 50 = .ok (.iload_n 2, 1) := by decide +kernel
theorem d_Mo_begin_51 : decode prog_13_method_20_code 51 = .ok (.i2l, 1) := by decide +kernel
theorem d_Mo_begin_52 : decode prog_13_method_20_code 52 = .ok (.lastore, 1) := by decide +kernel
theorem d_Mo_begin_53 : decode prog_13_method_20_code 53 = .ok (.iinc 2 1, 3) := by decide +kernel
theorem d_Mo_begin_56 : decode prog_13_method_20_code 56 = .ok (.goto (-20), 3) := by decide +kernel
theorem d_Mo_begin_59 : decode prog_13_method_20_code 59 = .ok (.iconst 0, 1) := by decide +kernel
theorem d_Mo_begin_60 : decode prog_13_method_20_code 60 = .ok (.istore_n 2, 1) := by decide +kernel
theorem d_Mo_begin_61 : decode prog_13_method_20_code 61 = .ok (.iload_n 2, 1) := by decide +kernel
theorem d_Mo_begin_62 : decode prog_13_method_20_code 62 = .ok (.bipush 25, 2) := by decide +kernel
theorem d_Mo_begin_64 : decode prog_13_method_20_code 64 = .ok (.if_icmp .ge 21, 3) := by decide +kernel
theorem d_Mo_begin_67 : decode prog_13_method_20_code 67 = .ok (.aload_n 0, 1) := by decide +kernel
theorem d_Mo_begin_68 : decode prog_13_method_20_code 68 = .ok (.getfield 56, 3) := by decide +kernel
theorem d_Mo_begin_71 : decode prog_13_method_20_code 71 = .ok (.bipush 24, 2) := by decide +kernel
theorem d_Mo_begin_73 : decode prog_13_method_20_code 73 = .ok (.iload_n 2, 1) := by decide +kernel
theorem d_Mo_begin_74 : decode prog_13_method_20_code 74 = .ok (.iadd, 1) := by decide +kernel
theorem d_Mo_begin_75 : decode prog_13_method_20_code 75 = .ok (.ldc2_w 124, 3) := by decide +kernel
theorem d_Mo_begin_78 : decode prog_13_method_20_code 78 = .ok (.lastore, 1) := by decide +kernel
theorem d_Mo_begin_79 : decode prog_13_method_20_code 79 = .ok (.iinc 2 1, 3) := by decide +kernel
theorem d_Mo_begin_82 : decode prog_13_method_20_code 82 = .ok (.goto (-21), 3) := by decide +kernel
theorem d_Mo_begin_85 : decode prog_13_method_20_code 85 = .ok (.bipush 6, 2) := by decide +kernel
theorem d_Mo_begin_87 : decode prog_13_method_20_code 87 = .ok (.iload_n 1, 1) := by decide +kernel
theorem d_Mo_begin_88 : decode prog_13_method_20_code 88 = .ok (.imul, 1) := by decide +kernel
theorem d_Mo_begin_89 : decode prog_13_method_20_code 89 = .ok (.istore_n 2, 1) := by decide +kernel
theorem d_Mo_begin_90 : decode prog_13_method_20_code 90 = .ok (.iload_n 2, 1) := by decide +kernel
theorem d_Mo_begin_91 : decode prog_13_method_20_code 91 = .ok (.bipush 6, 2) := by decide +kernel
theorem d_Mo_begin_93 : decode prog_13_method_20_code 93 = .ok (.iload_n 1, 1) := by decide +kernel
theorem d_Mo_begin_94 : decode prog_13_method_20_code 94 = .ok (.imul, 1) := by decide +kernel
theorem d_Mo_begin_95 : decode prog_13_method_20_code 95 = .ok (.aload_n 0, 1) := by decide +kernel
theorem d_Mo_begin_96 : decode prog_13_method_20_code 96 = .ok (.getfield 29, 3) := by decide +kernel
theorem d_Mo_begin_99 : decode prog_13_method_20_code 99 = .ok (.iload_n 1, 1) := by decide +kernel
theorem d_Mo_begin_100 : decode prog_13_method_20_code 100 = .ok (.iaload, 1) := by decide +kernel
theorem d_Mo_begin_101 : decode prog_13_method_20_code 101 = .ok (.iadd, 1) := by decide +kernel
theorem d_Mo_begin_102 : decode prog_13_method_20_code 102 = .ok (.if_icmp .ge 35, 3) := by decide +kernel
theorem d_Mo_begin_105 : decode prog_13_method_20_code 105 = .ok (.aload_n 0, 1) := by decide +kernel
theorem d_Mo_begin_106 : decode prog_13_method_20_code 106 = .ok (.iconst 0, 1) := by decide +kernel
theorem d_Mo_begin_107 : decode prog_13_method_20_code 107 = .ok (.aload_n 0, 1) := by decide +kernel
theorem d_Mo_begin_108 : decode prog_13_method_20_code 108 = .ok (.getfield 32, 3) := by decide +kernel
theorem d_Mo_begin_111 : decode prog_13_method_20_code 111 = .ok (.iload_n 2, 1) := by decide +kernel
theorem d_Mo_begin_112 : decode prog_13_method_20_code 112 = .ok (.iaload, 1) := by decide +kernel
theorem d_Mo_begin_113 : decode prog_13_method_20_code 113 = .ok (.i2l, 1) := by decide +kernel
theorem d_Mo_begin_114 : decode prog_13_method_20_code 114 = .ok (.aload_n 0, 1) := by decide +kernel
theorem d_Mo_begin_115 : decode prog_13_method_20_code 115 = .ok (.getfield 35, 3) := by decide +kernel
theorem d_Mo_begin_118 : decode prog_13_method_20_code 118 = .ok (.iload_n 2, 1) := by decide +kernel
theorem d_Mo_begin_119 : decode prog_13_method_20_code 119 = .ok (.iaload, 1) := by decide +kernel
theorem d_Mo_begin_120 : decode prog_13_method_20_code 120 = .ok (.i2l, 1) := by decide +kernel
theorem d_Mo_begin_121 : decode prog_13_method_20_code 121 = .ok (.aload_n 0, 1) := by decide +kernel
theorem d_Mo_begin_122 : decode prog_13_method_20_code 122 = .ok (.getfield 38, 3) := by decide +kernel
theorem d_Mo_begin_125 : decode prog_13_method_20_code 125 = .ok (.iload_n 2, 1) := by decide +kernel
theorem d_Mo_begin_126 : decode prog_13_method_20_code 126 = .ok (.iaload, 1) := by decide +kernel
theorem d_Mo_begin_127 : decode prog_13_method_20_code 127 = .ok (.i2l, 1) := by decide +kernel
theorem d_Mo_begin_128 : decode prog_13_method_20_code 128 = .ok (.invokevirtual 131, 3) := by decide +kernel
theorem d_Mo_begin_131 : decode prog_13_method_20_code 131 = .ok (.iinc 2 1, 3) := by decide +kernel
theorem d_Mo_begin_134 : decode prog_13_method_20_code 134 = .ok (.goto (-44), 3) := by decide +kernel
theorem d_Mo_begin_137 : decode prog_13_method_20_code 137 = .ok (.iconst 0, 1) := by decide +kernel
theorem d_Mo_begin_138 : decode prog_13_method_20_code 138 = .ok (.istore_n 2, 1) := by decide +kernel
theorem d_Mo_begin_139 : decode prog_13_method_20_code 139 = .ok (.iload_n 2, 1) := by decide +kernel
theorem d_Mo_begin_140 : decode prog_13_method_20_code 140 = .ok (.iconst 2, 1) := by decide +kernel
theorem d_Mo_begin_141 : decode prog_13_method_20_code 141 = .ok (.if_icmp .ge 99, 3) := by decide +kernel
theorem d_Mo_begin_144 : decode prog_13_method_20_code 144 = .ok (.iconst 2, 1) := by decide +kernel
theorem d_Mo_begin_145 : decode prog_13_method_20_code 145 = .ok (.iload_n 1, 1) := by decide +kernel
theorem d_Mo_begin_146 : decode prog_13_method_20_code 146 = .ok (.imul, 1) := by decide +kernel
theorem d_Mo_begin_147 : decode prog_13_method_20_code 147 = .ok (.iload_n 2, 1) := by decide +kernel
theorem d_Mo_begin_148 : decode prog_13_method_20_code 148 = .ok (.iadd, 1) := by decide +kernel
theorem d_Mo_begin_149 : decode prog_13_method_20_code 149 = .ok (.istore_n 3, 1) := by decide +kernel
theorem d_Mo_begin_150 : decode prog_13_method_20_code 150 = .ok (.aload_n 0, 1) := by decide +kernel
theorem d_Mo_begin_151 : decode prog_13_method_20_code 151 = .ok (.getfield 56, 3) := by decide +kernel
theorem d_Mo_begin_154 : decode prog_13_method_20_code 154 = .ok (.bipush 99, 2) := by decide +kernel
theorem d_Mo_begin_156 : decode prog_13_method_20_code 156 = .ok (.iload_n 2, 1) := by decide +kernel
theorem d_Mo_begin_157 : decode prog_13_method_20_code 157 = .ok (.iadd, 1) := by decide +kernel
theorem d_Mo_begin_158 : decode prog_13_method_20_code 158 = .ok (.aload_n 0, 1) := by decide +kernel
theorem d_Mo_begin_159 : decode prog_13_method_20_code 159 = .ok (.getfield 41, 3) := by decide +kernel
theorem d_Mo_begin_162 : decode prog_13_method_20_code 162 = .ok (.iload_n 3, 1) := by decide +kernel
theorem d_Mo_begin_163 : decode prog_13_method_20_code 163 = .ok (.iaload, 1) := by decide +kernel
theorem d_Mo_begin_164 : decode prog_13_method_20_code 164 = .ok (.i2l, 1) := by decide +kernel
theorem d_Mo_begin_165 : decode prog_13_method_20_code 165 = .ok (.lastore, 1) := by decide +kernel
theorem d_Mo_begin_166 : decode prog_13_method_20_code 166 = .ok (.iconst 3, 1) := by decide +kernel
theorem d_Mo_begin_167 : decode prog_13_method_20_code 167 = .ok (.iload_n 3, 1) := by decide +kernel
theorem d_Mo_begin_168 : decode prog_13_method_20_code 168 = .ok (.imul, 1) := by decide +kernel
theorem d_Mo_begin_169 : decode prog_13_method_20_code 169 = .ok (.istore 4, 2) := by decide +kernel
theorem d_Mo_begin_171 : decode prog_13_method_20_code 171 = .ok (.iload 4, 2) := by decide +kernel
theorem d_Mo_begin_173 : decode prog_13_method_20_code 173 = .ok (.iconst 3, 1) := by decide +kernel
theorem d_Mo_begin_174 : decode prog_13_method_20_code 174 = .ok (.iload_n 3, 1) := by decide +kernel
theorem d_Mo_begin_175 : decode prog_13_method_20_code 175 = .ok (.imul, 1) := by decide +kernel
theorem d_Mo_begin_176 : decode prog_13_method_20_code 176 = .ok (.aload_n 0, 1) := by decide +kernel
theorem d_Mo_begin_177 : decode prog_13_method_20_code 177 = .ok (.getfield 44, 3) := by decide +kernel
theorem d_Mo_begin_180 : decode prog_13_method_20_code 180 = .ok (.iload_n 3, 1) := by decide +kernel
theorem d_Mo_begin_181 : decode prog_13_method_20_code 181 = .ok (.iaload, 1) := by decide +kernel
theorem d_Mo_begin_182 : decode prog_13_method_20_code 182 = .ok (.iadd, 1) := by decide +kernel
theorem d_Mo_begin_183 : decode prog_13_method_20_code 183 = .ok (.if_icmp .ge 51, 3) := by decide +kernel
theorem d_Mo_begin_186 : decode prog_13_method_20_code 186 = .ok (.aload_n 0, 1) := by decide +kernel
theorem d_Mo_begin_187 : decode prog_13_method_20_code 187 = .ok (.iconst 0, 1) := by decide +kernel
theorem d_Mo_begin_188 : decode prog_13_method_20_code 188 = .ok (.iload_n 2, 1) := by decide +kernel
theorem d_Mo_begin_189 : decode prog_13_method_20_code 189 = .ok (.ifCond .ne 8, 3) := by decide +kernel
theorem d_Mo_begin_192 : decode prog_13_method_20_code 192 = .ok (.bipush 49, 2) := by decide +kernel
theorem d_Mo_begin_194 : decode prog_13_method_20_code 194 = .ok (.goto 5, 3) := by decide +kernel
theorem d_Mo_begin_197 : decode prog_13_method_20_code 197 = .ok (.bipush 74, 2) := by decide +kernel
theorem d_Mo_begin_199 : decode prog_13_method_20_code 199 = .ok (.aload_n 0, 1) := by decide +kernel
theorem d_Mo_begin_200 : decode prog_13_method_20_code 200 = .ok (.getfield 47, 3) := by decide +kernel
theorem d_Mo_begin_203 : decode prog_13_method_20_code 203 = .ok (.iload 4, 2) := by decide +kernel
theorem d_Mo_begin_205 : decode prog_13_method_20_code 205 = .ok (.iaload, 1) := by decide +kernel
theorem d_Mo_begin_206 : decode prog_13_method_20_code 206 = .ok (.i2l, 1) := by decide +kernel
theorem d_Mo_begin_207 : decode prog_13_method_20_code 207 = .ok (.aload_n 0, 1) := by decide +kernel
theorem d_Mo_begin_208 : decode prog_13_method_20_code 208 = .ok (.getfield 50, 3) := by decide +kernel
theorem d_Mo_begin_211 : decode prog_13_method_20_code 211 = .ok (.iload 4, 2) := by decide +kernel
theorem d_Mo_begin_213 : decode prog_13_method_20_code 213 = .ok (.iaload, 1) := by decide +kernel
theorem d_Mo_begin_214 : decode prog_13_method_20_code 214 = .ok (.i2l, 1) := by decide +kernel
theorem d_Mo_begin_215 : decode prog_13_method_20_code 215 = .ok (.lconst 0, 1) := by decide +kernel
theorem d_Mo_begin_216 : decode prog_13_method_20_code 216 = .ok (.aload_n 0, 1) := by decide +kernel
theorem d_Mo_begin_217 : decode prog_13_method_20_code 217 = .ok (.getfield 53, 3) := by decide +kernel
theorem d_Mo_begin_220 : decode prog_13_method_20_code 220 = .ok (.iload 4, 2) := by decide +kernel
theorem d_Mo_begin_222 : decode prog_13_method_20_code 222 = .ok (.iaload, 1) := by decide +kernel
theorem d_Mo_begin_223 : decode prog_13_method_20_code 223 = .ok (.i2l, 1) := by decide +kernel
theorem d_Mo_begin_224 : decode prog_13_method_20_code 224 = .ok (.lconst 0, 1) := by decide +kernel
theorem d_Mo_begin_225 : decode prog_13_method_20_code 225 = .ok (.invokevirtual 135, 3) := by decide +kernel
theorem d_Mo_begin_228 : decode prog_13_method_20_code 228 = .ok (.iinc 4 1, 3) := by decide +kernel
theorem d_Mo_begin_231 : decode prog_13_method_20_code 231 = .ok (.goto (-60), 3) := by decide +kernel
theorem d_Mo_begin_234 : decode prog_13_method_20_code 234 = .ok (.iinc 2 1, 3) := by decide +kernel
theorem d_Mo_begin_237 : decode prog_13_method_20_code 237 = .ok (.goto (-98), 3) := by decide +kernel
theorem d_Mo_begin_240 : decode prog_13_method_20_code 240 = .ok (.return_, 1) := by decide +kernel
theorem d_Mo_know_0 : decode prog_13_method_14_code 0 = .ok (.bipush 104, 2) := by decide +kernel
theorem d_Mo_know_2 : decode prog_13_method_14_code 2 = .ok (.iload_n 1, 1) := by decide +kernel
theorem d_Mo_know_3 : decode prog_13_method_14_code 3 = .ok (.imul, 1) := by decide +kernel
theorem d_Mo_know_4 : decode prog_13_method_14_code 4 = .ok (.bipush 24, 2) := by decide +kernel
theorem d_Mo_know_6 : decode prog_13_method_14_code 6 = .ok (.iadd, 1) := by decide +kernel
theorem d_Mo_know_7 : decode prog_13_method_14_code 7 = .ok (.iconst 5, 1) := by decide +kernel
theorem d_Mo_know_8 : decode prog_13_method_14_code 8 = .ok (.lload_n 2, 1) := by decide +kernel
theorem d_Mo_know_9 : decode prog_13_method_14_code 9 = .ok (.l2i, 1) := by decide +kernel
theorem d_Mo_know_10 : decode prog_13_method_14_code 10 = .ok (.imul, 1) := by decide +kernel
theorem d_Mo_know_11 : decode prog_13_method_14_code 11 = .ok (.iadd, 1) := by decide +kernel
theorem d_Mo_know_12 : decode prog_13_method_14_code 12 = .ok (.lload 4, 2) := by decide +kernel
theorem d_Mo_know_14 : decode prog_13_method_14_code 14 = .ok (.l2i, 1) := by decide +kernel
theorem d_Mo_know_15 : decode prog_13_method_14_code 15 = .ok (.iadd, 1) := by decide +kernel
theorem d_Mo_know_16 : decode prog_13_method_14_code 16 = .ok (.istore 8, 2) := by decide +kernel
theorem d_Mo_know_18 : decode prog_13_method_14_code 18 = .ok (.aload_n 0, 1) := by decide +kernel
theorem d_Mo_know_19 : decode prog_13_method_14_code 19 = .ok (.getfield 56, 3) := by decide +kernel
theorem d_Mo_know_22 : decode prog_13_method_14_code 22 = .ok (.iload 8, 2) := by decide +kernel
theorem d_Mo_know_24 : decode prog_13_method_14_code 24 = .ok (.aload_n 0, 1) := by decide +kernel
theorem d_Mo_know_25 : decode prog_13_method_14_code 25 = .ok (.getfield 56, 3) := by decide +kernel
theorem d_Mo_know_28 : decode prog_13_method_14_code 28 = .ok (.iload 8, 2) := by decide +kernel
theorem d_Mo_know_30 : decode prog_13_method_14_code 30 = .ok (.laload, 1) := by decide +kernel
theorem d_Mo_know_31 : decode prog_13_method_14_code 31 = .ok (.lload 6, 2) := by decide +kernel
theorem d_Mo_know_33 : decode prog_13_method_14_code 33 = .ok (.invokestatic 120, 3) := by decide +kernel
theorem d_Mo_know_36 : decode prog_13_method_14_code 36 = .ok (.lastore, 1) := by decide +kernel
theorem d_Mo_know_37 : decode prog_13_method_14_code 37 = .ok (.return_, 1) := by decide +kernel
theorem d_Mo_least_0 : decode prog_13_method_13_code 0 = .ok (.lload_n 0, 1) := by decide +kernel
theorem d_Mo_least_1 : decode prog_13_method_13_code 1 = .ok (.lload_n 2, 1) := by decide +kernel
theorem d_Mo_least_2 : decode prog_13_method_13_code 2 = .ok (.lcmp, 1) := by decide +kernel
theorem d_Mo_least_3 : decode prog_13_method_13_code 3 = .ok (.ifCond .ge 7, 3) := by decide +kernel
theorem d_Mo_least_6 : decode prog_13_method_13_code 6 = .ok (.lload_n 0, 1) := by decide +kernel
theorem d_Mo_least_7 : decode prog_13_method_13_code 7 = .ok (.goto 4, 3) := by decide +kernel
theorem d_Mo_least_10 : decode prog_13_method_13_code 10 = .ok (.lload_n 2, 1) := by decide +kernel
theorem d_Mo_least_11 : decode prog_13_method_13_code 11 = .ok (.lreturn, 1) := by decide +kernel
theorem d_Mo_addTerm_0 : decode prog_13_method_16_code 0 = .ok (.bipush 104, 2) := by decide +kernel
theorem d_Mo_addTerm_2 : decode prog_13_method_16_code 2 = .ok (.iload_n 1, 1) := by decide +kernel
theorem d_Mo_addTerm_3 : decode prog_13_method_16_code 3 = .ok (.imul, 1) := by decide +kernel
theorem d_Mo_addTerm_4 : decode prog_13_method_16_code 4 = .ok (.istore 13, 2) := by decide +kernel
theorem d_Mo_addTerm_6 : decode prog_13_method_16_code 6 = .ok (.ldc2_w 126, 3) := by decide +kernel
theorem d_Mo_addTerm_9 : decode prog_13_method_16_code 9 = .ok (.lload 5, 2) := by decide +kernel
theorem d_Mo_addTerm_11 : decode prog_13_method_16_code 11 = .ok (.lmul, 1) := by decide +kernel
theorem d_Mo_addTerm_12 : decode prog_13_method_16_code 12 = .ok (.lload 9, 2) := by decide +kernel
theorem d_Mo_addTerm_14 : decode prog_13_method_16_code 14 = .ok (.ladd, 1) := by decide +kernel
theorem d_Mo_addTerm_15 : decode prog_13_method_16_code 15 = .ok (.l2i, 1) := by decide +kernel
theorem d_Mo_addTerm_16 : decode prog_13_method_16_code 16 = .ok (.istore 14, 2) := by decide +kernel
theorem d_Mo_addTerm_18 : decode prog_13_method_16_code 18 = .ok (.aload_n 0, 1) := by decide +kernel
theorem d_Mo_addTerm_19 : decode prog_13_method_16_code 19 = .ok (.getfield 56, 3) := by decide +kernel
theorem d_Mo_addTerm_22 : decode prog_13_method_16_code 22 = .ok (.iload 13, 2) := by decide +kernel
theorem d_Mo_addTerm_24 : decode prog_13_method_16_code 24 = .ok (.iload_n 2, 1) := by decide +kernel
theorem d_Mo_addTerm_25 : decode prog_13_method_16_code 25 = .ok (.iadd, 1) := by decide +kernel
theorem d_Mo_addTerm_26 : decode prog_13_method_16_code 26 = .ok (.iload 14, 2) := by decide +kernel
theorem d_Mo_addTerm_28 : decode prog_13_method_16_code 28 = .ok (.iadd, 1) := by decide +kernel
theorem d_Mo_addTerm_29 : decode prog_13_method_16_code 29 = .ok (.dup2, 1) := by decide +kernel
theorem d_Mo_addTerm_30 : decode prog_13_method_16_code 30 = .ok (.laload, 1) := by decide +kernel
theorem d_Mo_addTerm_31 : decode prog_13_method_16_code 31 = .ok (.lload_n 3, 1) := by decide +kernel
theorem d_Mo_addTerm_32 : decode prog_13_method_16_code 32 = .ok (.ladd, 1) := by decide +kernel
theorem d_Mo_addTerm_33 : decode prog_13_method_16_code 33 = .ok (.lastore, 1) := by decide +kernel
theorem d_Mo_addTerm_34 : decode prog_13_method_16_code 34 = .ok (.aload_n 0, 1) := by decide +kernel
theorem d_Mo_addTerm_35 : decode prog_13_method_16_code 35 = .ok (.getfield 56, 3) := by decide +kernel
theorem d_Mo_addTerm_38 : decode prog_13_method_16_code 38 = .ok (.iload 13, 2) := by decide +kernel
theorem d_Mo_addTerm_40 : decode prog_13_method_16_code 40 = .ok (.iload_n 2, 1) := by decide +kernel
theorem d_Mo_addTerm_41 : decode prog_13_method_16_code 41 = .ok (.bipush 49, 2) := by decide +kernel
theorem d_Mo_addTerm_43 : decode prog_13_method_16_code 43 = .ok (.if_icmp .ne 8, 3) := by decide +kernel
theorem d_Mo_addTerm_46 : decode prog_13_method_16_code 46 = .ok (.bipush 99, 2) := by decide +kernel
theorem d_Mo_addTerm_48 : decode prog_13_method_16_code 48 = .ok (.goto 5, 3) := by decide +kernel
theorem d_Mo_addTerm_51 : decode prog_13_method_16_code 51 = .ok (.bipush 100, 2) := by decide +kernel
theorem d_Mo_addTerm_53 : decode prog_13_method_16_code 53 = .ok (.iadd, 1) := by decide +kernel
theorem d_Mo_addTerm_54 : decode prog_13_method_16_code 54 = .ok (.dup2, 1) := by decide +kernel
theorem d_Mo_addTerm_55 : decode prog_13_method_16_code 55 = .ok (.laload, 1) := by decide +kernel
theorem d_Mo_addTerm_56 : decode prog_13_method_16_code 56 = .ok (.lload_n 3, 1) := by decide +kernel
theorem d_Mo_addTerm_57 : decode prog_13_method_16_code 57 = .ok (.lload 7, 2) := by decide +kernel
theorem d_Mo_addTerm_59 : decode prog_13_method_16_code 59 = .ok (.lload 11, 2) := by decide +kernel
theorem d_Mo_addTerm_61 : decode prog_13_method_16_code 61 = .ok (.lsub, 1) := by decide +kernel
theorem d_Mo_addTerm_62 : decode prog_13_method_16_code 62 = .ok (.lmul, 1) := by decide +kernel
theorem d_Mo_addTerm_63 : decode prog_13_method_16_code 63 = .ok (.ladd, 1) := by decide +kernel
theorem d_Mo_addTerm_64 : decode prog_13_method_16_code 64 = .ok (.lastore, 1) := by decide +kernel
theorem d_Mo_addTerm_65 : decode prog_13_method_16_code 65 = .ok (.return_, 1) := by decide +kernel
theorem d_Mo_findBounds_0 : decode prog_13_method_12_code 0 = .ok (.bipush 104, 2) := by decide +kernel
theorem d_Mo_findBounds_2 : decode prog_13_method_12_code 2 = .ok (.iload_n 1, 1) := by decide +kernel
theorem d_Mo_findBounds_3 : decode prog_13_method_12_code 3 = .ok (.imul, 1) := by decide +kernel
theorem d_Mo_findBounds_4 : decode prog_13_method_12_code 4 = .ok (.bipush 24, 2) := by decide +kernel
theorem d_Mo_findBounds_6 : decode prog_13_method_12_code 6 = .ok (.iadd, 1) := by decide +kernel
theorem d_Mo_findBounds_7 : decode prog_13_method_12_code 7 = .ok (.istore_n 2, 1) := by decide +kernel
theorem d_Mo_findBounds_8 : decode prog_13_method_12_code 8 = .ok (.iconst 0, 1) := by decide +kernel
theorem d_Mo_findBounds_9 : decode prog_13_method_12_code 9 = .ok (.istore_n 3, 1) := by decide +kernel
theorem d_Mo_findBounds_10 : decode prog_13_method_12_code 10 = .ok (.iload_n 3, 1) := by decide +kernel
theorem d_Mo_findBounds_11 : decode prog_13_method_12_code 11 = .ok (.bipush 25, 2) := by decide +kernel
theorem d_Mo_findBounds_13 : decode prog_13_method_12_code 13 = .ok (.if_icmp .ge 45, 3) := by decide +kernel
theorem d_Mo_findBounds_16 : decode prog_13_method_12_code 16 = .ok (.aload_n 0, 1) := by decide +kernel
theorem d_Mo_findBounds_17 : decode prog_13_method_12_code 17 = .ok (.getfield 60, 3) := by decide +kernel
theorem d_Mo_findBounds_20 : decode prog_13_method_12_code 20 = .ok (.iload_n 3, 1) := by decide +kernel
theorem d_Mo_findBounds_21 : decode prog_13_method_12_code 21 = .ok (.iload_n 3, 1) := by decide +kernel
theorem d_Mo_findBounds_22 : decode prog_13_method_12_code 22 = .ok (.bipush 6, 2) := by decide +kernel
theorem d_Mo_findBounds_24 : decode prog_13_method_12_code 24 = .ok (.irem, 1) := by decide +kernel
theorem d_Mo_findBounds_25 : decode prog_13_method_12_code 25 = .ok (.ifCond .ne 18, 3) := by decide +kernel
theorem d_Mo_findBounds_28 : decode prog_13_method_12_code 28 = .ok (.lconst 0, 1) := by decide +kernel
theorem d_Mo_findBounds_29 : decode prog_13_method_12_code 29 = .ok (.aload_n 0, 1) := by decide +kernel
theorem d_Mo_findBounds_30 : decode prog_13_method_12_code 30 = .ok (.getfield 56, 3) := by decide +kernel
theorem d_Mo_findBounds_33 : decode prog_13_method_12_code 33 = .ok (.iload_n 2, 1) := by decide +kernel
theorem d_Mo_findBounds_34 : decode prog_13_method_12_code 34 = .ok (.iload_n 3, 1) := by decide +kernel
theorem d_Mo_findBounds_35 : decode prog_13_method_12_code 35 = .ok (.iadd, 1) := by decide +kernel
theorem d_Mo_findBounds_36 : decode prog_13_method_12_code 36 = .ok (.laload, 1) := by decide +kernel
theorem d_Mo_findBounds_37 : decode prog_13_method_12_code 37 = .ok (.invokestatic 120, 3) := by decide +kernel
theorem d_Mo_findBounds_40 : decode prog_13_method_12_code 40 = .ok (.goto 11, 3) := by decide +kernel
theorem d_Mo_findBounds_43 : decode prog_13_method_12_code 43 = .ok (.aload_n 0, 1) := by decide +kernel
theorem d_Mo_findBounds_44 : decode prog_13_method_12_code 44 = .ok (.getfield 56, 3) := by decide +kernel
theorem d_Mo_findBounds_47 : decode prog_13_method_12_code 47 = .ok (.iload_n 2, 1) := by decide +kernel
theorem d_Mo_findBounds_48 : decode prog_13_method_12_code 48 = .ok (.iload_n 3, 1) := by decide +kernel
theorem d_Mo_findBounds_49 : decode prog_13_method_12_code 49 = .ok (.iadd, 1) := by decide +kernel
theorem d_Mo_findBounds_50 : decode prog_13_method_12_code 50 = .ok (.laload, 1) := by decide +kernel
theorem d_Mo_findBounds_51 : decode prog_13_method_12_code 51 = .ok (.lastore, 1) := by decide +kernel
theorem d_Mo_findBounds_52 : decode prog_13_method_12_code 52 = .ok (.iinc 3 1, 3) := by decide +kernel
theorem d_Mo_findBounds_55 : decode prog_13_method_12_code 55 = .ok (.goto (-45), 3) := by decide +kernel
theorem d_Mo_findBounds_58 : decode prog_13_method_12_code 58 = .ok (.iconst 0, 1) := by decide +kernel
theorem d_Mo_findBounds_59 : decode prog_13_method_12_code 59 = .ok (.istore_n 3, 1) := by decide +kernel
theorem d_Mo_findBounds_60 : decode prog_13_method_12_code 60 = .ok (.iload_n 3, 1) := by decide +kernel
theorem d_Mo_findBounds_61 : decode prog_13_method_12_code 61 = .ok (.iconst 4, 1) := by decide +kernel
theorem d_Mo_findBounds_62 : decode prog_13_method_12_code 62 = .ok (.if_icmp .ge 158, 3) := by decide +kernel
theorem d_Mo_findBounds_65 : decode prog_13_method_12_code 65 = .ok (.iconst 0, 1) := by decide +kernel
theorem d_Mo_findBounds_66 : decode prog_13_method_12_code 66 = .ok (.istore 4, 2) := by decide +kernel
theorem d_Mo_findBounds_68 : decode prog_13_method_12_code 68 = .ok (.iload 4, 2) := by decide +kernel
theorem d_Mo_findBounds_70 : decode prog_13_method_12_code 70 = .ok (.bipush 25, 2) := by decide +kernel
theorem d_Mo_findBounds_72 : decode prog_13_method_12_code 72 = .ok (.if_icmp .ge 112, 3) := by decide +kernel
theorem d_Mo_findBounds_75 : decode prog_13_method_12_code 75 = .ok (.aload_n 0, 1) := by decide +kernel
theorem d_Mo_findBounds_76 : decode prog_13_method_12_code 76 = .ok (.getfield 63, 3) := by decide +kernel
theorem d_Mo_findBounds_79 : decode prog_13_method_12_code 79 = .ok (.iload 4, 2) := by decide +kernel
theorem d_Mo_findBounds_81 : decode prog_13_method_12_code 81 = .ok (.aload_n 0, 1) := by decide +kernel
theorem d_Mo_findBounds_82 : decode prog_13_method_12_code 82 = .ok (.getfield 60, 3) := by decide +kernel
theorem d_Mo_findBounds_85 : decode prog_13_method_12_code 85 = .ok (.iload 4, 2) := by decide +kernel
theorem d_Mo_findBounds_87 : decode prog_13_method_12_code 87 = .ok (.laload, 1) := by decide +kernel
theorem d_Mo_findBounds_88 : decode prog_13_method_12_code 88 = .ok (.lastore, 1) := by decide +kernel
theorem d_Mo_findBounds_89 : decode prog_13_method_12_code 89 = .ok (.iconst 0, 1) := by decide +kernel
theorem d_Mo_findBounds_90 : decode prog_13_method_12_code 90 = .ok (.istore 5, 2) := by decide +kernel
theorem d_Mo_findBounds_92 : decode prog_13_method_12_code 92 = .ok (.iload 5, 2) := by decide +kernel
theorem d_Mo_findBounds_94 : decode prog_13_method_12_code 94 = .ok (.iconst 5, 1) := by decide +kernel
theorem d_Mo_findBounds_95 : decode prog_13_method_12_code 95 = .ok (.if_icmp .ge 83, 3) := by decide +kernel
theorem d_Mo_findBounds_98 : decode prog_13_method_12_code 98 = .ok (.aload_n 0, 1) := by decide +kernel
theorem d_Mo_findBounds_99 : decode prog_13_method_12_code 99 = .ok (.getfield 60, 3) := by decide +kernel
theorem d_Mo_findBounds_102 : decode prog_13_method_12_code 102 = .ok (.iconst 5, 1) := by decide +kernel
theorem d_Mo_findBounds_103 : decode prog_13_method_12_code 103 = .ok (.iload 4, 2) := by decide +kernel
theorem d_Mo_findBounds_105 : decode prog_13_method_12_code 105 = .ok (.iconst 5, 1) := by decide +kernel
theorem d_Mo_findBounds_106 : decode prog_13_method_12_code 106 = .ok (.idiv, 1) := by decide +kernel
theorem d_Mo_findBounds_107 : decode prog_13_method_12_code 107 = .ok (.imul, 1) := by decide +kernel
theorem d_Mo_findBounds_108 : decode prog_13_method_12_code 108 = .ok (.iload 5, 2) := by decide +kernel
theorem d_Mo_findBounds_110 : decode prog_13_method_12_code 110 = .ok (.iadd, 1) := by decide +kernel
theorem d_Mo_findBounds_111 : decode prog_13_method_12_code 111 = .ok (.laload, 1) := by decide +kernel
theorem d_Mo_findBounds_112 : decode prog_13_method_12_code 112 = .ok (.lstore 6, 2) := by decide +kernel
theorem d_Mo_findBounds_114 : decode prog_13_method_12_code 114 = .ok (.aload_n 0, 1) := by decide +kernel
theorem d_Mo_findBounds_115 : decode prog_13_method_12_code 115 = .ok (.getfield 56, 3) := by decide +kernel
theorem d_Mo_findBounds_118 : decode prog_13_method_12_code 118 = .ok (.iload_n 2, 1) := by decide +kernel
theorem d_Mo_findBounds_119 : decode prog_13_method_12_code 119 = .ok (.iconst 5, 1) := by decide +kernel
theorem d_Mo_findBounds_120 : decode prog_13_method_12_code 120 = .ok (.iload 5, 2) := by decide +kernel
theorem d_Mo_findBounds_122 : decode prog_13_method_12_code 122 = .ok (.imul, 1) := by decide +kernel
theorem d_Mo_findBounds_123 : decode prog_13_method_12_code 123 = .ok (.iadd, 1) := by decide +kernel
theorem d_Mo_findBounds_124 : decode prog_13_method_12_code 124 = .ok (.iload 4, 2) := by decide +kernel
theorem d_Mo_findBounds_126 : decode prog_13_method_12_code 126 = .ok (.iconst 5, 1) := by decide +kernel
theorem d_Mo_findBounds_127 : decode prog_13_method_12_code 127 = .ok (.irem, 1) := by decide +kernel
theorem d_Mo_findBounds_128 : decode prog_13_method_12_code 128 = .ok (.iadd, 1) := by decide +kernel
theorem d_Mo_findBounds_129 : decode prog_13_method_12_code 129 = .ok (.laload, 1) := by decide +kernel
theorem d_Mo_findBounds_130 : decode prog_13_method_12_code 130 = .ok (.lstore 8, 2) := by decide +kernel
theorem d_Mo_findBounds_132 : decode prog_13_method_12_code 132 = .ok (.lload 6, 2) := by decide +kernel
theorem d_Mo_findBounds_134 : decode prog_13_method_12_code 134 = .ok (.ldc2_w 124, 3) := by decide +kernel
theorem d_Mo_findBounds_137 : decode prog_13_method_12_code 137 = .ok (.lcmp, 1) := by decide +kernel
theorem d_Mo_findBounds_138 : decode prog_13_method_12_code 138 = .ok (.ifCond .ge 34, 3) := by decide +kernel
theorem d_Mo_findBounds_141 : decode prog_13_method_12_code 141 = .ok (.lload 8, 2) := by decide +kernel
theorem d_Mo_findBounds_143 : decode prog_13_method_12_code 143 = .ok (.ldc2_w 124, 3) := by decide +kernel
theorem d_Mo_findBounds_146 : decode prog_13_method_12_code 146 = .ok (.lcmp, 1) := by decide +kernel
theorem d_Mo_findBounds_147 : decode prog_13_method_12_code 147 = .ok (.ifCond .ge 25, 3) := by decide +kernel
theorem d_Mo_findBounds_150 : decode prog_13_method_12_code 150 = .ok (.aload_n 0, 1) := by decide +kernel
theorem d_Mo_findBounds_151 : decode prog_13_method_12_code 151 = .ok (.getfield 63, 3) := by decide +kernel
theorem d_Mo_findBounds_154 : decode prog_13_method_12_code 154 = .ok (.iload 4, 2) := by decide +kernel
theorem d_Mo_findBounds_156 : decode prog_13_method_12_code 156 = .ok (.aload_n 0, 1) := by decide +kernel
theorem d_Mo_findBounds_157 : decode prog_13_method_12_code 157 = .ok (.getfield 63, 3) := by decide +kernel
theorem d_Mo_findBounds_160 : decode prog_13_method_12_code 160 = .ok (.iload 4, 2) := by decide +kernel
theorem d_Mo_findBounds_162 : decode prog_13_method_12_code 162 = .ok (.laload, 1) := by decide +kernel
theorem d_Mo_findBounds_163 : decode prog_13_method_12_code 163 = .ok (.lload 6, 2) := by decide +kernel
theorem d_Mo_findBounds_165 : decode prog_13_method_12_code 165 = .ok (.lload 8, 2) := by decide +kernel
theorem d_Mo_findBounds_167 : decode prog_13_method_12_code 167 = .ok (.ladd, 1) := by decide +kernel
theorem d_Mo_findBounds_168 : decode prog_13_method_12_code 168 = .ok (.invokestatic 120, 3) := by decide +kernel
theorem d_Mo_findBounds_171 : decode prog_13_method_12_code 171 = .ok (.lastore, 1) := by decide +kernel
theorem d_Mo_findBounds_172 : decode prog_13_method_12_code 172 = .ok (.iinc 5 1, 3) := by decide +kernel
theorem d_Mo_findBounds_175 : decode prog_13_method_12_code 175 = .ok (.goto (-83), 3) := by decide +kernel
theorem d_Mo_findBounds_178 : decode prog_13_method_12_code 178 = .ok (.iinc 4 1, 3) := by decide +kernel
theorem d_Mo_findBounds_181 : decode prog_13_method_12_code 181 = .ok (.goto (-113), 3) := by decide +kernel
theorem d_Mo_findBounds_184 : decode prog_13_method_12_code 184 = .ok (.iconst 0, 1) := by decide +kernel
theorem d_Mo_findBounds_185 : decode prog_13_method_12_code 185 = .ok (.istore 4, 2) := by decide +kernel
theorem d_Mo_findBounds_187 : decode prog_13_method_12_code 187 = .ok (.iload 4, 2) := by decide +kernel
theorem d_Mo_findBounds_189 : decode prog_13_method_12_code 189 = .ok (.bipush 25, 2) := by decide +kernel
theorem d_Mo_findBounds_191 : decode prog_13_method_12_code 191 = .ok (.if_icmp .ge 23, 3) := by decide +kernel
theorem d_Mo_findBounds_194 : decode prog_13_method_12_code 194 = .ok (.aload_n 0, 1) := by decide +kernel
theorem d_Mo_findBounds_195 : decode prog_13_method_12_code 195 = .ok (.getfield 60, 3) := by decide +kernel
theorem d_Mo_findBounds_198 : decode prog_13_method_12_code 198 = .ok (.iload 4, 2) := by decide +kernel
theorem d_Mo_findBounds_200 : decode prog_13_method_12_code 200 = .ok (.aload_n 0, 1) := by decide +kernel
theorem d_Mo_findBounds_201 : decode prog_13_method_12_code 201 = .ok (.getfield 63, 3) := by decide +kernel
theorem d_Mo_findBounds_204 : decode prog_13_method_12_code 204 = .ok (.iload 4, 2) := by decide +kernel
theorem d_Mo_findBounds_206 : decode prog_13_method_12_code 206 = .ok (.laload, 1) := by decide +kernel
theorem d_Mo_findBounds_207 : decode prog_13_method_12_code 207 = .ok (.lastore, 1) := by decide +kernel
theorem d_Mo_findBounds_208 : decode prog_13_method_12_code 208 = .ok (.iinc 4 1, 3) := by decide +kernel
theorem d_Mo_findBounds_211 : decode prog_13_method_12_code 211 = .ok (.goto (-24), 3) := by decide +kernel
theorem d_Mo_findBounds_214 : decode prog_13_method_12_code 214 = .ok (.iinc 3 1, 3) := by decide +kernel
theorem d_Mo_findBounds_217 : decode prog_13_method_12_code 217 = .ok (.goto (-157), 3) := by decide +kernel
theorem d_Mo_findBounds_220 : decode prog_13_method_12_code 220 = .ok (.iconst 1, 1) := by decide +kernel
theorem d_Mo_findBounds_221 : decode prog_13_method_12_code 221 = .ok (.istore_n 3, 1) := by decide +kernel
theorem d_Mo_findBounds_222 : decode prog_13_method_12_code 222 = .ok (.iconst 0, 1) := by decide +kernel
theorem d_Mo_findBounds_223 : decode prog_13_method_12_code 223 = .ok (.istore 4, 2) := by decide +kernel
theorem d_Mo_findBounds_225 : decode prog_13_method_12_code 225 = .ok (.iload 4, 2) := by decide +kernel
theorem d_Mo_findBounds_227 : decode prog_13_method_12_code 227 = .ok (.iconst 5, 1) := by decide +kernel
theorem d_Mo_findBounds_228 : decode prog_13_method_12_code 228 = .ok (.if_icmp .ge 34, 3) := by decide +kernel
theorem d_Mo_findBounds_231 : decode prog_13_method_12_code 231 = .ok (.iload_n 3, 1) := by decide +kernel
theorem d_Mo_findBounds_232 : decode prog_13_method_12_code 232 = .ok (.ifCond .eq 22, 3) := by decide +kernel
theorem d_Mo_findBounds_235 : decode prog_13_method_12_code 235 = .ok (.aload_n 0, 1) := by decide +kernel
theorem d_Mo_findBounds_236 : decode prog_13_method_12_code 236 = .ok (.getfield 60, 3) := by decide +kernel
theorem d_Mo_findBounds_239 : decode prog_13_method_12_code 239 = .ok (.bipush 6, 2) := by decide +kernel
theorem d_Mo_findBounds_241 : decode prog_13_method_12_code 241 = .ok (.iload 4, 2) := by decide +kernel
theorem d_Mo_findBounds_243 : decode prog_13_method_12_code 243 = .ok (.imul, 1) := by decide +kernel
theorem d_Mo_findBounds_244 : decode prog_13_method_12_code 244 = .ok (.laload, 1) := by decide +kernel
theorem d_Mo_findBounds_245 : decode prog_13_method_12_code 245 = .ok (.lconst 0, 1) := by decide +kernel
theorem d_Mo_findBounds_246 : decode prog_13_method_12_code 246 = .ok (.lcmp, 1) := by decide +kernel
theorem d_Mo_findBounds_247 : decode prog_13_method_12_code 247 = .ok (.ifCond .lt 7, 3) := by decide +kernel
theorem d_Mo_findBounds_250 : decode prog_13_method_12_code 250 = .ok (.iconst 1, 1) := by decide +kernel
theorem d_Mo_findBounds_251 : decode prog_13_method_12_code 251 = .ok (.goto 4, 3) := by decide +kernel
theorem d_Mo_findBounds_254 : decode prog_13_method_12_code 254 = .ok (.iconst 0, 1) := by decide +kernel
theorem d_Mo_findBounds_255 : decode prog_13_method_12_code 255 = .ok (.istore_n 3, 1) := by decide +kernel
theorem d_Mo_findBounds_256 : decode prog_13_method_12_code 256 = .ok (.iinc 4 1, 3) := by decide +kernel
theorem d_Mo_findBounds_259 : decode prog_13_method_12_code 259 = .ok (.goto (-34), 3) := by decide +kernel
theorem d_Mo_findBounds_262 : decode prog_13_method_12_code 262 = .ok (.iload_n 3, 1) := by decide +kernel
theorem d_Mo_findBounds_263 : decode prog_13_method_12_code 263 = .ok (.ireturn, 1) := by decide +kernel
theorem d_Mo_negative_0 : decode prog_13_method_18_code 0 = .ok (.aload_n 0, 1) := by decide +kernel
theorem d_Mo_negative_1 : decode prog_13_method_18_code 1 = .ok (.getfield 41, 3) := by decide +kernel
theorem d_Mo_negative_4 : decode prog_13_method_18_code 4 = .ok (.iload_n 1, 1) := by decide +kernel
theorem d_Mo_negative_5 : decode prog_13_method_18_code 5 = .ok (.iaload, 1) := by decide +kernel
theorem d_Mo_negative_6 : decode prog_13_method_18_code 6 = .ok (.i2l, 1) := by decide +kernel
theorem d_Mo_negative_7 : decode prog_13_method_18_code 7 = .ok (.lstore_n 2, 1) := by decide +kernel
theorem d_Mo_negative_8 : decode prog_13_method_18_code 8 = .ok (.iconst 0, 1) := by decide +kernel
theorem d_Mo_negative_9 : decode prog_13_method_18_code 9 = .ok (.istore 4, 2) := by decide +kernel
theorem d_Mo_negative_11 : decode prog_13_method_18_code 11 = .ok (.iconst 0, 1) := by decide +kernel
theorem d_Mo_negative_12 : decode prog_13_method_18_code 12 = .ok (.istore 5, 2) := by decide +kernel
theorem d_Mo_negative_14 : decode prog_13_method_18_code 14 = .ok (.iload 5, 2) := by decide +kernel
theorem d_Mo_negative_16 : decode prog_13_method_18_code 16 = .ok (.aload_n 0, 1) := by decide +kernel
theorem d_Mo_negative_17 : decode prog_13_method_18_code 17 = .ok (.getfield 44, 3) := by decide +kernel
theorem d_Mo_negative_20 : decode prog_13_method_18_code 20 = .ok (.iload_n 1, 1) := by decide +kernel
theorem d_Mo_negative_21 : decode prog_13_method_18_code 21 = .ok (.iaload, 1) := by decide +kernel
theorem d_Mo_negative_22 : decode prog_13_method_18_code 22 = .ok (.if_icmp .ge 93, 3) := by decide +kernel
theorem d_Mo_negative_25 : decode prog_13_method_18_code 25 = .ok (.aload_n 0, 1) := by decide +kernel
theorem d_Mo_negative_26 : decode prog_13_method_18_code 26 = .ok (.getfield 60, 3) := by decide +kernel
theorem d_Mo_negative_29 : decode prog_13_method_18_code 29 = .ok (.iconst 5, 1) := by decide +kernel
theorem d_Mo_negative_30 : decode prog_13_method_18_code 30 = .ok (.aload_n 0, 1) := by decide +kernel
theorem d_Mo_negative_31 : decode prog_13_method_18_code 31 = .ok (.getfield 53, 3) := by decide +kernel
theorem d_Mo_negative_34 : decode prog_13_method_18_code 34 = .ok (.iconst 3, 1) := by decide +kernel
theorem d_Mo_negative_35 : decode prog_13_method_18_code 35 = .ok (.iload_n 1, 1) := by decide +kernel
theorem d_Mo_negative_36 : decode prog_13_method_18_code 36 = .ok (.imul, 1) := by decide +kernel
theorem d_Mo_negative_37 : decode prog_13_method_18_code 37 = .ok (.iload 5, 2) := by decide +kernel
theorem d_Mo_negative_39 : decode prog_13_method_18_code 39 = .ok (.iadd, 1) := by decide +kernel
theorem d_Mo_negative_40 : decode prog_13_method_18_code 40 = .ok (.iaload, 1) := by decide +kernel
theorem d_Mo_negative_41 : decode prog_13_method_18_code 41 = .ok (.imul, 1) := by decide +kernel
theorem d_Mo_negative_42 : decode prog_13_method_18_code 42 = .ok (.aload_n 0, 1) := by decide +kernel
theorem d_Mo_negative_43 : decode prog_13_method_18_code 43 = .ok (.getfield 50, 3) := by decide +kernel
theorem d_Mo_negative_46 : decode prog_13_method_18_code 46 = .ok (.iconst 3, 1) := by decide +kernel
theorem d_Mo_negative_47 : decode prog_13_method_18_code 47 = .ok (.iload_n 1, 1) := by decide +kernel
theorem d_Mo_negative_48 : decode prog_13_method_18_code 48 = .ok (.imul, 1) := by decide +kernel
theorem d_Mo_negative_49 : decode prog_13_method_18_code 49 = .ok (.iload 5, 2) := by decide +kernel
theorem d_Mo_negative_51 : decode prog_13_method_18_code 51 = .ok (.iadd, 1) := by decide +kernel
theorem d_Mo_negative_52 : decode prog_13_method_18_code 52 = .ok (.iaload, 1) := by decide +kernel
theorem d_Mo_negative_53 : decode prog_13_method_18_code 53 = .ok (.iadd, 1) := by decide +kernel
theorem d_Mo_negative_54 : decode prog_13_method_18_code 54 = .ok (.laload, 1) := by decide +kernel
theorem d_Mo_negative_55 : decode prog_13_method_18_code 55 = .ok (.lstore 6, 2) := by decide +kernel
theorem d_Mo_negative_57 : decode prog_13_method_18_code 57 = .ok (.iload 4, 2) := by decide +kernel
theorem d_Mo_negative_59 : decode prog_13_method_18_code 59 = .ok (.ifCond .ne 12, 3) := by decide +kernel
theorem d_Mo_negative_62 : decode prog_13_method_18_code 62 = .ok (.lload 6, 2) := by decide +kernel
theorem d_Mo_negative_64 : decode prog_13_method_18_code 64 = .ok (.ldc2_w 124, 3) := by decide +kernel
theorem d_Mo_negative_67 : decode prog_13_method_18_code 67 = .ok (.lcmp, 1) := by decide +kernel
theorem d_Mo_negative_68 : decode prog_13_method_18_code 68 = .ok (.ifCond .lt 7, 3) := by decide +kernel
theorem d_Mo_negative_71 : decode prog_13_method_18_code 71 = .ok (.iconst 1, 1) := by decide +kernel
theorem d_Mo_negative_72 : decode prog_13_method_18_code 72 = .ok (.goto 4, 3) := by decide +kernel
theorem d_Mo_negative_75 : decode prog_13_method_18_code 75 = .ok (.iconst 0, 1) := by decide +kernel
theorem d_Mo_negative_76 : decode prog_13_method_18_code 76 = .ok (.istore 4, 2) := by decide +kernel
theorem d_Mo_negative_78 : decode prog_13_method_18_code 78 = .ok (.lload_n 2, 1) := by decide +kernel
theorem d_Mo_negative_79 : decode prog_13_method_18_code 79 = .ok (.lload 6, 2) := by decide +kernel
theorem d_Mo_negative_81 : decode prog_13_method_18_code 81 = .ok (.ldc2_w 124, 3) := by decide +kernel
theorem d_Mo_negative_84 : decode prog_13_method_18_code 84 = .ok (.lcmp, 1) := by decide +kernel
theorem d_Mo_negative_85 : decode prog_13_method_18_code 85 = .ok (.ifCond .lt 7, 3) := by decide +kernel
theorem d_Mo_negative_88 : decode prog_13_method_18_code 88 = .ok (.lconst 0, 1) := by decide +kernel
theorem d_Mo_negative_89 : decode prog_13_method_18_code 89 = .ok (.goto 18, 3) := by decide +kernel
theorem d_Mo_negative_92 : decode prog_13_method_18_code 92 = .ok (.aload_n 0, 1) := by decide +kernel
theorem d_Mo_negative_93 : decode prog_13_method_18_code 93 = .ok (.getfield 47, 3) := by decide +kernel
theorem d_Mo_negative_96 : decode prog_13_method_18_code 96 = .ok (.iconst 3, 1) := by decide +kernel
theorem d_Mo_negative_97 : decode prog_13_method_18_code 97 = .ok (.iload_n 1, 1) := by decide +kernel
theorem d_Mo_negative_98 : decode prog_13_method_18_code 98 = .ok (.imul, 1) := by decide +kernel
theorem d_Mo_negative_99 : decode prog_13_method_18_code 99 = .ok (.iload 5, 2) := by decide +kernel
theorem d_Mo_negative_101 : decode prog_13_method_18_code 101 = .ok (.iadd, 1) := by decide +kernel
theorem d_Mo_negative_102 : decode prog_13_method_18_code 102 = .ok (.iaload, 1) := by decide +kernel
theorem d_Mo_negative_103 : decode prog_13_method_18_code 103 = .ok (.i2l, 1) := by decide +kernel
theorem d_Mo_negative_104 : decode prog_13_method_18_code 104 = .ok (.lload 6, 2) := by decide +kernel
theorem d_Mo_negative_106 : decode prog_13_method_18_code 106 = .ok (.lmul, 1) := by decide +kernel
theorem d_Mo_negative_107 : decode prog_13_method_18_code 107 = .ok (.lsub, 1) := by decide +kernel
theorem d_Mo_negative_108 : decode prog_13_method_18_code 108 = .ok (.lstore_n 2, 1) := by decide +kernel
theorem d_Mo_negative_109 : decode prog_13_method_18_code 109 = .ok (.iinc 5 1, 3) := by decide +kernel
theorem d_Mo_negative_112 : decode prog_13_method_18_code 112 = .ok (.goto (-98), 3) := by decide +kernel
theorem d_Mo_negative_115 : decode prog_13_method_18_code 115 = .ok (.iload 4, 2) := by decide +kernel
theorem d_Mo_negative_117 : decode prog_13_method_18_code 117 = .ok (.ifCond .ne 9, 3) := by decide +kernel
theorem d_Mo_negative_120 : decode prog_13_method_18_code 120 = .ok (.lload_n 2, 1) := by decide +kernel
theorem d_Mo_negative_121 : decode prog_13_method_18_code 121 = .ok (.lconst 0, 1) := by decide +kernel
theorem d_Mo_negative_122 : decode prog_13_method_18_code 122 = .ok (.lcmp, 1) := by decide +kernel
theorem d_Mo_negative_123 : decode prog_13_method_18_code 123 = .ok (.ifCond .ge 7, 3) := by decide +kernel
theorem d_Mo_negative_126 : decode prog_13_method_18_code 126 = .ok (.iconst 1, 1) := by decide +kernel
theorem d_Mo_negative_127 : decode prog_13_method_18_code 127 = .ok (.goto 4, 3) := by decide +kernel
theorem d_Mo_negative_130 : decode prog_13_method_18_code 130 = .ok (.iconst 0, 1) := by decide +kernel
theorem d_Mo_negative_131 : decode prog_13_method_18_code 131 = .ok (.ireturn, 1) := by decide +kernel
theorem d_Mo_advance_0 : decode prog_13_method_22_code 0 = .ok (.bipush 104, 2) := by decide +kernel
theorem d_Mo_advance_2 : decode prog_13_method_22_code 2 = .ok (.iload_n 2, 1) := by decide +kernel
theorem d_Mo_advance_3 : decode prog_13_method_22_code 3 = .ok (.imul, 1) := by decide +kernel
theorem d_Mo_advance_4 : decode prog_13_method_22_code 4 = .ok (.istore_n 3, 1) := by decide +kernel
theorem d_Mo_advance_5 : decode prog_13_method_22_code 5 = .ok (.aload_n 0, 1) := by decide +kernel
theorem d_Mo_advance_6 : decode prog_13_method_22_code 6 = .ok (.getfield 56, 3) := by decide +kernel
theorem d_Mo_advance_9 : decode prog_13_method_22_code 9 = .ok (.iload_n 3, 1) := by decide +kernel
theorem d_Mo_advance_10 : decode prog_13_method_22_code 10 = .ok (.laload, 1) := by decide +kernel
theorem d_Mo_advance_11 : decode prog_13_method_22_code 11 = .ok (.l2i, 1) := by decide +kernel
theorem d_Mo_advance_12 : decode prog_13_method_22_code 12 = .ok (.istore 4, 2) := by decide +kernel
theorem d_Mo_advance_14 : decode prog_13_method_22_code 14 = .ok (.iload 4, 2) := by decide +kernel
theorem d_Mo_advance_16 : decode prog_13_method_22_code 16 = .ok (.i2l, 1) := by decide +kernel
theorem d_Mo_advance_17 : decode prog_13_method_22_code 17 = .ok (.lconst 0, 1) := by decide +kernel
theorem d_Mo_advance_18 : decode prog_13_method_22_code 18 = .ok (.aload_n 0, 1) := by decide +kernel
theorem d_Mo_advance_19 : decode prog_13_method_22_code 19 = .ok (.getfield 7, 3) := by decide +kernel
theorem d_Mo_advance_22 : decode prog_13_method_22_code 22 = .ok (.iload_n 1, 1) := by decide +kernel
theorem d_Mo_advance_23 : decode prog_13_method_22_code 23 = .ok (.iaload, 1) := by decide +kernel
theorem d_Mo_advance_24 : decode prog_13_method_22_code 24 = .ok (.iconst 1, 1) := by decide +kernel
theorem d_Mo_advance_25 : decode prog_13_method_22_code 25 = .ok (.isub, 1) := by decide +kernel
theorem d_Mo_advance_26 : decode prog_13_method_22_code 26 = .ok (.i2l, 1) := by decide +kernel
theorem d_Mo_advance_27 : decode prog_13_method_22_code 27 = .ok (.invokestatic 86, 3) := by decide +kernel
theorem d_Mo_advance_30 : decode prog_13_method_22_code 30 = .ok (.ifCond .ne 5, 3) := by decide +kernel
theorem d_Mo_advance_33 : decode prog_13_method_22_code 33 = .ok (.iconst 2, 1) := by decide +kernel
theorem d_Mo_advance_34 : decode prog_13_method_22_code 34 = .ok (.ireturn, 1) := by decide +kernel
theorem d_Mo_advance_35 : decode prog_13_method_22_code 35 = .ok (.aload_n 0, 1) := by decide +kernel
theorem d_Mo_advance_36 : decode prog_13_method_22_code 36 = .ok (.getfield 56, 3) := by decide +kernel
theorem d_Mo_advance_39 : decode prog_13_method_22_code 39 = .ok (.iload_n 3, 1) := by decide +kernel
theorem d_Mo_advance_40 : decode prog_13_method_22_code 40 = .ok (.iconst 1, 1) := by decide +kernel
theorem d_Mo_advance_41 : decode prog_13_method_22_code 41 = .ok (.iadd, 1) := by decide +kernel
theorem d_Mo_advance_42 : decode prog_13_method_22_code 42 = .ok (.laload, 1) := by decide +kernel
theorem d_Mo_advance_43 : decode prog_13_method_22_code 43 = .ok (.lconst 0, 1) := by decide +kernel
theorem d_Mo_advance_44 : decode prog_13_method_22_code 44 = .ok (.lcmp, 1) := by decide +kernel
theorem d_Mo_advance_45 : decode prog_13_method_22_code 45 = .ok (.ifCond .le 13, 3) := by decide +kernel
theorem d_Mo_advance_48 : decode prog_13_method_22_code 48 = .ok (.aload_n 0, 1) := by decide +kernel
theorem d_Mo_advance_49 : decode prog_13_method_22_code 49 = .ok (.iload_n 1, 1) := by decide +kernel
theorem d_Mo_advance_50 : decode prog_13_method_22_code 50 = .ok (.iload 4, 2) := by decide +kernel
theorem d_Mo_advance_52 : decode prog_13_method_22_code 52 = .ok (.invokevirtual 106, 3) := by decide +kernel
theorem d_Mo_advance_55 : decode prog_13_method_22_code 55 = .ok (.goto 4, 3) := by decide +kernel
theorem d_Mo_advance_58 : decode prog_13_method_22_code 58 = .ok (.iconst (-1), 1) := by decide +kernel
theorem d_Mo_advance_59 : decode prog_13_method_22_code 59 = .ok (.istore 5, 2) := by decide +kernel
theorem d_Mo_advance_61 : decode prog_13_method_22_code 61 = .ok (.iload 5, 2) := by decide +kernel
theorem d_Mo_advance_63 : decode prog_13_method_22_code 63 = .ok (.ifCond .lt 11, 3) := by decide +kernel
theorem d_Mo_advance_66 : decode prog_13_method_22_code 66 = .ok (.aload_n 0, 1) := by decide +kernel
theorem d_Mo_advance_67 : decode prog_13_method_22_code 67 = .ok (.iload_n 2, 1) := by decide +kernel
theorem d_Mo_advance_68 : decode prog_13_method_22_code 68 = .ok (.iload 5, 2) := by decide +kernel
theorem d_Mo_advance_70 : decode prog_13_method_22_code 70 = .ok (.invokevirtual 159, 3) := by decide +kernel
theorem d_Mo_advance_73 : decode prog_13_method_22_code 73 = .ok (.ireturn, 1) := by decide +kernel
theorem d_Mo_advance_74 : decode prog_13_method_22_code 74 = .ok (.aload_n 0, 1) := by decide +kernel
theorem d_Mo_advance_75 : decode prog_13_method_22_code 75 = .ok (.getfield 56, 3) := by decide +kernel
theorem d_Mo_advance_78 : decode prog_13_method_22_code 78 = .ok (.iload_n 3, 1) := by decide +kernel
theorem d_Mo_advance_79 : decode prog_13_method_22_code 79 = .ok (.iconst 1, 1) := by decide +kernel
theorem d_Mo_advance_80 : decode prog_13_method_22_code 80 = .ok (.iadd, 1) := by decide +kernel
theorem d_Mo_advance_81 : decode prog_13_method_22_code 81 = .ok (.laload, 1) := by decide +kernel
theorem d_Mo_advance_82 : decode prog_13_method_22_code 82 = .ok (.ldc2_w 162, 3) := by decide +kernel
theorem d_Mo_advance_85 : decode prog_13_method_22_code 85 = .ok (.lcmp, 1) := by decide +kernel
theorem d_Mo_advance_86 : decode prog_13_method_22_code 86 = .ok (.ifCond .ne 5, 3) := by decide +kernel
theorem d_Mo_advance_89 : decode prog_13_method_22_code 89 = .ok (.iconst 3, 1) := by decide +kernel
theorem d_Mo_advance_90 : decode prog_13_method_22_code 90 = .ok (.ireturn, 1) := by decide +kernel
theorem d_Mo_advance_91 : decode prog_13_method_22_code 91 = .ok (.aload_n 0, 1) := by decide +kernel
theorem d_Mo_advance_92 : decode prog_13_method_22_code 92 = .ok (.getfield 13, 3) := by decide +kernel
theorem d_Mo_advance_95 : decode prog_13_method_22_code 95 = .ok (.bipush 24, 2) := by decide +kernel
theorem d_Mo_advance_97 : decode prog_13_method_22_code 97 = .ok (.iload_n 1, 1) := by decide +kernel
theorem d_Mo_advance_98 : decode prog_13_method_22_code 98 = .ok (.imul, 1) := by decide +kernel
theorem d_Mo_advance_99 : decode prog_13_method_22_code 99 = .ok (.iload 4, 2) := by decide +kernel
theorem d_Mo_advance_101 : decode prog_13_method_22_code 101 = .ok (.iadd, 1) := by decide +kernel
theorem d_Mo_advance_102 : decode prog_13_method_22_code 102 = .ok (.iaload, 1) := by decide +kernel
theorem d_Mo_advance_103 : decode prog_13_method_22_code 103 = .ok (.istore 6, 2) := by decide +kernel
theorem d_Mo_advance_105 : decode prog_13_method_22_code 105 = .ok (.aload_n 0, 1) := by decide +kernel
theorem d_Mo_advance_106 : decode prog_13_method_22_code 106 = .ok (.getfield 16, 3) := by decide +kernel
theorem d_Mo_advance_109 : decode prog_13_method_22_code 109 = .ok (.bipush 24, 2) := by decide +kernel
theorem d_Mo_advance_111 : decode prog_13_method_22_code 111 = .ok (.iload_n 1, 1) := by decide +kernel
theorem d_Mo_advance_112 : decode prog_13_method_22_code 112 = .ok (.imul, 1) := by decide +kernel
theorem d_Mo_advance_113 : decode prog_13_method_22_code 113 = .ok (.iload 4, 2) := by decide +kernel
theorem d_Mo_advance_115 : decode prog_13_method_22_code 115 = .ok (.iadd, 1) := by decide +kernel
theorem d_Mo_advance_116 : decode prog_13_method_22_code 116 = .ok (.iaload, 1) := by decide +kernel
theorem d_Mo_advance_117 : decode prog_13_method_22_code 117 = .ok (.istore 7, 2) := by decide +kernel
theorem d_Mo_advance_119 : decode prog_13_method_22_code 119 = .ok (.aload_n 0, 1) := by decide +kernel
theorem d_Mo_advance_120 : decode prog_13_method_22_code 120 = .ok (.getfield 56, 3) := by decide +kernel
theorem d_Mo_advance_123 : decode prog_13_method_22_code 123 = .ok (.iload_n 3, 1) := by decide +kernel
theorem d_Mo_advance_124 : decode prog_13_method_22_code 124 = .ok (.iconst 2, 1) := by decide +kernel
theorem d_Mo_advance_125 : decode prog_13_method_22_code 125 = .ok (.iadd, 1) := by decide +kernel
theorem d_Mo_advance_126 : decode prog_13_method_22_code 126 = .ok (.laload, 1) := by decide +kernel
theorem d_Mo_advance_127 : decode prog_13_method_22_code 127 = .ok (.lstore 8, 2) := by decide +kernel
theorem d_Mo_advance_129 : decode prog_13_method_22_code 129 = .ok (.iload 6, 2) := by decide +kernel
theorem d_Mo_advance_131 : decode prog_13_method_22_code 131 = .ok (.iconst 2, 1) := by decide +kernel
theorem d_Mo_advance_132 : decode prog_13_method_22_code 132 = .ok (.if_icmp .eq 24, 3) := by decide +kernel
theorem d_Mo_advance_135 : decode prog_13_method_22_code 135 = .ok (.iload 6, 2) := by decide +kernel
theorem d_Mo_advance_137 : decode prog_13_method_22_code 137 = .ok (.bipush 10, 2) := by decide +kernel
theorem d_Mo_advance_139 : decode prog_13_method_22_code 139 = .ok (.if_icmp .eq 17, 3) := by decide +kernel
theorem d_Mo_advance_142 : decode prog_13_method_22_code 142 = .ok (.iload 6, 2) := by decide +kernel
theorem d_Mo_advance_144 : decode prog_13_method_22_code 144 = .ok (.bipush 12, 2) := by decide +kernel
theorem d_Mo_advance_146 : decode prog_13_method_22_code 146 = .ok (.if_icmp .eq 10, 3) := by decide +kernel
theorem d_Mo_advance_149 : decode prog_13_method_22_code 149 = .ok (.iload 6, 2) := by decide +kernel
theorem d_Mo_advance_151 : decode prog_13_method_22_code 151 = .ok (.bipush 14, 2) := by decide +kernel
theorem d_Mo_advance_153 : decode prog_13_method_22_code 153 = .ok (.if_icmp .ne 7, 3) := by decide +kernel
theorem d_Mo_advance_156 : decode prog_13_method_22_code 156 = .ok (.lconst 1, 1) := by decide +kernel
theorem d_Mo_advance_157 : decode prog_13_method_22_code 157 = .ok (.goto 49, 3) := by decide +kernel
theorem d_Mo_advance_160 : decode prog_13_method_22_code 160 = .ok (.iload 6, 2) := by decide +kernel
theorem d_Mo_advance_162 : decode prog_13_method_22_code 162 = .ok (.iconst 3, 1) := by decide +kernel
theorem d_Mo_advance_163 : decode prog_13_method_22_code 163 = .ok (.if_icmp .eq 23, 3) := by decide +kernel
theorem d_Mo_advance_166 : decode prog_13_method_22_code 166 = .ok (.iload 6, 2) := by decide +kernel
theorem d_Mo_advance_168 : decode prog_13_method_22_code 168 = .ok (.iconst 4, 1) := by decide +kernel
theorem d_Mo_advance_169 : decode prog_13_method_22_code 169 = .ok (.if_icmp .eq 17, 3) := by decide +kernel
theorem d_Mo_advance_172 : decode prog_13_method_22_code 172 = .ok (.iload 6, 2) := by decide +kernel
theorem d_Mo_advance_174 : decode prog_13_method_22_code 174 = .ok (.bipush 8, 2) := by decide +kernel
theorem d_Mo_advance_176 : decode prog_13_method_22_code 176 = .ok (.if_icmp .eq 10, 3) := by decide +kernel
theorem d_Mo_advance_179 : decode prog_13_method_22_code 179 = .ok (.iload 6, 2) := by decide +kernel
theorem d_Mo_advance_181 : decode prog_13_method_22_code 181 = .ok (.bipush 9, 2) := by decide +kernel
theorem d_Mo_advance_183 : decode prog_13_method_22_code 183 = .ok (.if_icmp .ne 9, 3) := by decide +kernel
theorem d_Mo_advance_186 : decode prog_13_method_22_code 186 = .ok (.ldc2_w 164, 3) := by decide +kernel
theorem d_Mo_advance_189 : decode prog_13_method_22_code 189 = .ok (.goto 17, 3) := by decide +kernel
theorem d_Mo_advance_192 : decode prog_13_method_22_code 192 = .ok (.iload 6, 2) := by decide +kernel
theorem d_Mo_advance_194 : decode prog_13_method_22_code 194 = .ok (.bipush 11, 2) := by decide +kernel
theorem d_Mo_advance_196 : decode prog_13_method_22_code 196 = .ok (.if_icmp .ne 9, 3) := by decide +kernel
theorem d_Mo_advance_199 : decode prog_13_method_22_code 199 = .ok (.ldc2_w 84, 3) := by decide +kernel
theorem d_Mo_advance_202 : decode prog_13_method_22_code 202 = .ok (.goto 4, 3) := by decide +kernel
theorem d_Mo_advance_205 : decode prog_13_method_22_code 205 = .ok (.lconst 0, 1) := by decide +kernel
theorem d_Mo_advance_206 : decode prog_13_method_22_code 206 = .ok (.lstore 10, 2) := by decide +kernel
theorem d_Mo_advance_208 : decode prog_13_method_22_code 208 = .ok (.iload 6, 2) := by decide +kernel
theorem d_Mo_advance_210 : decode prog_13_method_22_code 210 = .ok (.iconst 1, 1) := by decide +kernel
theorem d_Mo_advance_211 : decode prog_13_method_22_code 211 = .ok (.if_icmp .le 10, 3) := by decide +kernel
theorem d_Mo_advance_214 : decode prog_13_method_22_code 214 = .ok (.iload 6, 2) := by decide +kernel
theorem d_Mo_advance_216 : decode prog_13_method_22_code 216 = .ok (.bipush 13, 2) := by decide +kernel
theorem d_Mo_advance_218 : decode prog_13_method_22_code 218 = .ok (.if_icmp .ne 7, 3) := by decide +kernel
theorem d_Mo_advance_221 : decode prog_13_method_22_code 221 = .ok (.iconst 1, 1) := by decide +kernel
theorem d_Mo_advance_222 : decode prog_13_method_22_code 222 = .ok (.goto 4, 3) := by decide +kernel
theorem d_Mo_advance_225 : decode prog_13_method_22_code 225 = .ok (.iconst 0, 1) := by decide +kernel
theorem d_Mo_advance_226 : decode prog_13_method_22_code 226 = .ok (.istore 12, 2) := by decide +kernel
theorem d_Mo_advance_228 : decode prog_13_method_22_code 228 = .ok (.lload 8, 2) := by decide +kernel
theorem d_Mo_advance_230 : decode prog_13_method_22_code 230 = .ok (.lload 10, 2) := by decide +kernel
theorem d_Mo_advance_232 : decode prog_13_method_22_code 232 = .ok (.lcmp, 1) := by decide +kernel
theorem d_Mo_advance_233 : decode prog_13_method_22_code 233 = .ok (.ifCond .lt 42, 3) := by decide +kernel
theorem d_Mo_advance_236 : decode prog_13_method_22_code 236 = .ok (.iload 12, 2) := by decide +kernel
theorem d_Mo_advance_238 : decode prog_13_method_22_code 238 = .ok (.ifCond .eq 12, 3) := by decide +kernel
theorem d_Mo_advance_241 : decode prog_13_method_22_code 241 = .ok (.lload 8, 2) := by decide +kernel
theorem d_Mo_advance_243 : decode prog_13_method_22_code 243 = .ok (.ldc2_w 166, 3) := by decide +kernel
theorem d_Mo_advance_246 : decode prog_13_method_22_code 246 = .ok (.lcmp, 1) := by decide +kernel
theorem d_Mo_advance_247 : decode prog_13_method_22_code 247 = .ok (.ifCond .eq 28, 3) := by decide +kernel
theorem d_Mo_advance_250 : decode prog_13_method_22_code 250 = .ok (.iload 6, 2) := by decide +kernel
theorem d_Mo_advance_252 : decode prog_13_method_22_code 252 = .ok (.iconst 1, 1) := by decide +kernel
theorem d_Mo_advance_253 : decode prog_13_method_22_code 253 = .ok (.if_icmp .eq 9, 3) := by decide +kernel
theorem d_Mo_advance_256 : decode prog_13_method_22_code 256 = .ok (.iload 6, 2) := by decide +kernel
theorem d_Mo_advance_258 : decode prog_13_method_22_code 258 = .ok (.iconst 2, 1) := by decide +kernel
theorem d_Mo_advance_259 : decode prog_13_method_22_code 259 = .ok (.if_icmp .ne 18, 3) := by decide +kernel
theorem d_Mo_advance_262 : decode prog_13_method_22_code 262 = .ok (.iload 7, 2) := by decide +kernel
theorem d_Mo_advance_264 : decode prog_13_method_22_code 264 = .ok (.i2l, 1) := by decide +kernel
theorem d_Mo_advance_265 : decode prog_13_method_22_code 265 = .ok (.lconst 0, 1) := by decide +kernel
theorem d_Mo_advance_266 : decode prog_13_method_22_code 266 = .ok (.ldc2_w 84, 3) := by decide +kernel
theorem d_Mo_advance_269 : decode prog_13_method_22_code 269 = .ok (.invokestatic 86, 3) := by decide +kernel
theorem d_Mo_advance_272 : decode prog_13_method_22_code 272 = .ok (.ifCond .ne 5, 3) := by decide +kernel
theorem d_Mo_advance_275 : decode prog_13_method_22_code 275 = .ok (.iconst 2, 1) := by decide +kernel
theorem d_Mo_advance_276 : decode prog_13_method_22_code 276 = .ok (.ireturn, 1) := by decide +kernel
theorem d_Mo_advance_277 : decode prog_13_method_22_code 277 = .ok (.iload 6, 2) := by decide +kernel
theorem d_Mo_advance_279 : decode prog_13_method_22_code 279 = .ok (.bipush 11, 2) := by decide +kernel
theorem d_Mo_advance_281 : decode prog_13_method_22_code 281 = .ok (.if_icmp .ne 46, 3) := by decide +kernel
theorem d_Mo_advance_284 : decode prog_13_method_22_code 284 = .ok (.iload 7, 2) := by decide +kernel
theorem d_Mo_advance_286 : decode prog_13_method_22_code 286 = .ok (.i2l, 1) := by decide +kernel
theorem d_Mo_advance_287 : decode prog_13_method_22_code 287 = .ok (.lconst 0, 1) := by decide +kernel
theorem d_Mo_advance_288 : decode prog_13_method_22_code 288 = .ok (.iload_n 1, 1) := by decide +kernel
theorem d_Mo_advance_289 : decode prog_13_method_22_code 289 = .ok (.iconst 1, 1) := by decide +kernel
theorem d_Mo_advance_290 : decode prog_13_method_22_code 290 = .ok (.isub, 1) := by decide +kernel
theorem d_Mo_advance_291 : decode prog_13_method_22_code 291 = .ok (.i2l, 1) := by decide +kernel
theorem d_Mo_advance_292 : decode prog_13_method_22_code 292 = .ok (.invokestatic 86, 3) := by decide +kernel
theorem d_Mo_advance_295 : decode prog_13_method_22_code 295 = .ok (.ifCond .eq 30, 3) := by decide +kernel
theorem d_Mo_advance_298 : decode prog_13_method_22_code 298 = .ok (.aload_n 0, 1) := by decide +kernel
theorem d_Mo_advance_299 : decode prog_13_method_22_code 299 = .ok (.getfield 7, 3) := by decide +kernel
theorem d_Mo_advance_302 : decode prog_13_method_22_code 302 = .ok (.iload 7, 2) := by decide +kernel
theorem d_Mo_advance_304 : decode prog_13_method_22_code 304 = .ok (.i2l, 1) := by decide +kernel
theorem d_Mo_advance_305 : decode prog_13_method_22_code 305 = .ok (.lconst 0, 1) := by decide +kernel
theorem d_Mo_advance_306 : decode prog_13_method_22_code 306 = .ok (.ldc2_w 84, 3) := by decide +kernel
theorem d_Mo_advance_309 : decode prog_13_method_22_code 309 = .ok (.invokestatic 86, 3) := by decide +kernel
theorem d_Mo_advance_312 : decode prog_13_method_22_code 312 = .ok (.ifCond .eq 8, 3) := by decide +kernel
theorem d_Mo_advance_315 : decode prog_13_method_22_code 315 = .ok (.iload 7, 2) := by decide +kernel
theorem d_Mo_advance_317 : decode prog_13_method_22_code 317 = .ok (.goto 4, 3) := by decide +kernel
theorem d_Mo_advance_320 : decode prog_13_method_22_code 320 = .ok (.iconst 0, 1) := by decide +kernel
theorem d_Mo_advance_321 : decode prog_13_method_22_code 321 = .ok (.iaload, 1) := by decide +kernel
theorem d_Mo_advance_322 : decode prog_13_method_22_code 322 = .ok (.ifCond .ne 5, 3) := by decide +kernel
theorem d_Mo_advance_325 : decode prog_13_method_22_code 325 = .ok (.iconst 2, 1) := by decide +kernel
theorem d_Mo_advance_326 : decode prog_13_method_22_code 326 = .ok (.ireturn, 1) := by decide +kernel
theorem d_Mo_advance_327 : decode prog_13_method_22_code 327 = .ok (.aload_n 0, 1) := by decide +kernel
theorem d_Mo_advance_328 : decode prog_13_method_22_code 328 = .ok (.getfield 56, 3) := by decide +kernel
theorem d_Mo_advance_331 : decode prog_13_method_22_code 331 = .ok (.iload_n 3, 1) := by decide +kernel
theorem d_Mo_advance_332 : decode prog_13_method_22_code 332 = .ok (.iconst 1, 1) := by decide +kernel
theorem d_Mo_advance_333 : decode prog_13_method_22_code 333 = .ok (.iadd, 1) := by decide +kernel
theorem d_Mo_advance_334 : decode prog_13_method_22_code 334 = .ok (.dup2, 1) := by decide +kernel
theorem d_Mo_advance_335 : decode prog_13_method_22_code 335 = .ok (.laload, 1) := by decide +kernel
theorem d_Mo_advance_336 : decode prog_13_method_22_code 336 = .ok (.lconst 1, 1) := by decide +kernel
theorem d_Mo_advance_337 : decode prog_13_method_22_code 337 = .ok (.ladd, 1) := by decide +kernel
theorem d_Mo_advance_338 : decode prog_13_method_22_code 338 = .ok (.lastore, 1) := by decide +kernel
theorem d_Mo_advance_339 : decode prog_13_method_22_code 339 = .ok (.aload_n 0, 1) := by decide +kernel
theorem d_Mo_advance_340 : decode prog_13_method_22_code 340 = .ok (.getfield 56, 3) := by decide +kernel
theorem d_Mo_advance_343 : decode prog_13_method_22_code 343 = .ok (.iload_n 3, 1) := by decide +kernel
theorem d_Mo_advance_344 : decode prog_13_method_22_code 344 = .ok (.bipush 99, 2) := by decide +kernel
theorem d_Mo_advance_346 : decode prog_13_method_22_code 346 = .ok (.iadd, 1) := by decide +kernel
theorem d_Mo_advance_347 : decode prog_13_method_22_code 347 = .ok (.dup2, 1) := by decide +kernel
theorem d_Mo_advance_348 : decode prog_13_method_22_code 348 = .ok (.laload, 1) := by decide +kernel
theorem d_Mo_advance_349 : decode prog_13_method_22_code 349 = .ok (.lconst 1, 1) := by decide +kernel
theorem d_Mo_advance_350 : decode prog_13_method_22_code 350 = .ok (.lsub, 1) := by decide +kernel
theorem d_Mo_advance_351 : decode prog_13_method_22_code 351 = .ok (.lastore, 1) := by decide +kernel
theorem d_Mo_advance_352 : decode prog_13_method_22_code 352 = .ok (.aload_n 0, 1) := by decide +kernel
theorem d_Mo_advance_353 : decode prog_13_method_22_code 353 = .ok (.getfield 56, 3) := by decide +kernel
theorem d_Mo_advance_356 : decode prog_13_method_22_code 356 = .ok (.iload_n 3, 1) := by decide +kernel
theorem d_Mo_advance_357 : decode prog_13_method_22_code 357 = .ok (.iload 4, 2) := by decide +kernel
theorem d_Mo_advance_359 : decode prog_13_method_22_code 359 = .ok (.iconst 1, 1) := by decide +kernel
theorem d_Mo_advance_360 : decode prog_13_method_22_code 360 = .ok (.iadd, 1) := by decide +kernel
theorem d_Mo_advance_361 : decode prog_13_method_22_code 361 = .ok (.i2l, 1) := by decide +kernel
theorem d_Mo_advance_362 : decode prog_13_method_22_code 362 = .ok (.lastore, 1) := by decide +kernel
theorem d_Mo_advance_363 : decode prog_13_method_22_code 363 = .ok (.iload 6, 2) := by decide +kernel
theorem d_Mo_advance_365 : decode prog_13_method_22_code 365 = .ok (.bipush 8, 2) := by decide +kernel
theorem d_Mo_advance_367 : decode prog_13_method_22_code 367 = .ok (.if_icmp .eq 10, 3) := by decide +kernel
theorem d_Mo_advance_370 : decode prog_13_method_22_code 370 = .ok (.iload 6, 2) := by decide +kernel
theorem d_Mo_advance_372 : decode prog_13_method_22_code 372 = .ok (.bipush 9, 2) := by decide +kernel
theorem d_Mo_advance_374 : decode prog_13_method_22_code 374 = .ok (.if_icmp .ne 23, 3) := by decide +kernel
theorem d_Mo_advance_377 : decode prog_13_method_22_code 377 = .ok (.aload_n 0, 1) := by decide +kernel
theorem d_Mo_advance_378 : decode prog_13_method_22_code 378 = .ok (.iload_n 2, 1) := by decide +kernel
theorem d_Mo_advance_379 : decode prog_13_method_22_code 379 = .ok (.iload 6, 2) := by decide +kernel
theorem d_Mo_advance_381 : decode prog_13_method_22_code 381 = .ok (.bipush 8, 2) := by decide +kernel
theorem d_Mo_advance_383 : decode prog_13_method_22_code 383 = .ok (.if_icmp .ne 7, 3) := by decide +kernel
theorem d_Mo_advance_386 : decode prog_13_method_22_code 386 = .ok (.iconst 1, 1) := by decide +kernel
theorem d_Mo_advance_387 : decode prog_13_method_22_code 387 = .ok (.goto 4, 3) := by decide +kernel
theorem d_Mo_advance_390 : decode prog_13_method_22_code 390 = .ok (.iconst 0, 1) := by decide +kernel
theorem d_Mo_advance_391 : decode prog_13_method_22_code 391 = .ok (.iload 7, 2) := by decide +kernel
theorem d_Mo_advance_393 : decode prog_13_method_22_code 393 = .ok (.invokevirtual 168, 3) := by decide +kernel
theorem d_Mo_advance_396 : decode prog_13_method_22_code 396 = .ok (.ireturn, 1) := by decide +kernel
theorem d_Mo_advance_397 : decode prog_13_method_22_code 397 = .ok (.iload 6, 2) := by decide +kernel
theorem d_Mo_advance_399 : decode prog_13_method_22_code 399 = .ok (.bipush 7, 2) := by decide +kernel
theorem d_Mo_advance_401 : decode prog_13_method_22_code 401 = .ok (.if_icmp .ne 12, 3) := by decide +kernel
theorem d_Mo_advance_404 : decode prog_13_method_22_code 404 = .ok (.aload_n 0, 1) := by decide +kernel
theorem d_Mo_advance_405 : decode prog_13_method_22_code 405 = .ok (.getfield 56, 3) := by decide +kernel
theorem d_Mo_advance_408 : decode prog_13_method_22_code 408 = .ok (.iload_n 3, 1) := by decide +kernel
theorem d_Mo_advance_409 : decode prog_13_method_22_code 409 = .ok (.iload 7, 2) := by decide +kernel
theorem d_Mo_advance_411 : decode prog_13_method_22_code 411 = .ok (.i2l, 1) := by decide +kernel
theorem d_Mo_advance_412 : decode prog_13_method_22_code 412 = .ok (.lastore, 1) := by decide +kernel
theorem d_Mo_advance_413 : decode prog_13_method_22_code 413 = .ok (.iload 6, 2) := by decide +kernel
theorem d_Mo_advance_415 : decode prog_13_method_22_code 415 = .ok (.bipush 10, 2) := by decide +kernel
theorem d_Mo_advance_417 : decode prog_13_method_22_code 417 = .ok (.if_icmp .ne 9, 3) := by decide +kernel
theorem d_Mo_advance_420 : decode prog_13_method_22_code 420 = .ok (.aload_n 0, 1) := by decide +kernel
theorem d_Mo_advance_421 : decode prog_13_method_22_code 421 = .ok (.iload_n 2, 1) := by decide +kernel
theorem d_Mo_advance_422 : decode prog_13_method_22_code 422 = .ok (.invokevirtual 172, 3) := by decide +kernel
theorem d_Mo_advance_425 : decode prog_13_method_22_code 425 = .ok (.ireturn, 1) := by decide +kernel
theorem d_Mo_advance_426 : decode prog_13_method_22_code 426 = .ok (.iload 6, 2) := by decide +kernel
theorem d_Mo_advance_428 : decode prog_13_method_22_code 428 = .ok (.bipush 11, 2) := by decide +kernel
theorem d_Mo_advance_430 : decode prog_13_method_22_code 430 = .ok (.if_icmp .ne 11, 3) := by decide +kernel
theorem d_Mo_advance_433 : decode prog_13_method_22_code 433 = .ok (.aload_n 0, 1) := by decide +kernel
theorem d_Mo_advance_434 : decode prog_13_method_22_code 434 = .ok (.iload_n 2, 1) := by decide +kernel
theorem d_Mo_advance_435 : decode prog_13_method_22_code 435 = .ok (.iload 7, 2) := by decide +kernel
theorem d_Mo_advance_437 : decode prog_13_method_22_code 437 = .ok (.invokevirtual 176, 3) := by decide +kernel
theorem d_Mo_advance_440 : decode prog_13_method_22_code 440 = .ok (.ireturn, 1) := by decide +kernel
theorem d_Mo_advance_441 : decode prog_13_method_22_code 441 = .ok (.iload 6, 2) := by decide +kernel
theorem d_Mo_advance_443 : decode prog_13_method_22_code 443 = .ok (.bipush 12, 2) := by decide +kernel
theorem d_Mo_advance_445 : decode prog_13_method_22_code 445 = .ok (.if_icmp .ne 10, 3) := by decide +kernel
theorem d_Mo_advance_448 : decode prog_13_method_22_code 448 = .ok (.aload_n 0, 1) := by decide +kernel
theorem d_Mo_advance_449 : decode prog_13_method_22_code 449 = .ok (.iload_n 2, 1) := by decide +kernel
theorem d_Mo_advance_450 : decode prog_13_method_22_code 450 = .ok (.iconst (-1), 1) := by decide +kernel
theorem d_Mo_advance_451 : decode prog_13_method_22_code 451 = .ok (.invokevirtual 159, 3) := by decide +kernel
theorem d_Mo_advance_454 : decode prog_13_method_22_code 454 = .ok (.ireturn, 1) := by decide +kernel
theorem d_Mo_advance_455 : decode prog_13_method_22_code 455 = .ok (.aload_n 0, 1) := by decide +kernel
theorem d_Mo_advance_456 : decode prog_13_method_22_code 456 = .ok (.iload_n 2, 1) := by decide +kernel
theorem d_Mo_advance_457 : decode prog_13_method_22_code 457 = .ok (.iload 6, 2) := by decide +kernel
theorem d_Mo_advance_459 : decode prog_13_method_22_code 459 = .ok (.iload 7, 2) := by decide +kernel
theorem d_Mo_advance_461 : decode prog_13_method_22_code 461 = .ok (.invokevirtual 179, 3) := by decide +kernel
theorem d_Mo_advance_464 : decode prog_13_method_22_code 464 = .ok (.iconst 0, 1) := by decide +kernel
theorem d_Mo_advance_465 : decode prog_13_method_22_code 465 = .ok (.ireturn, 1) := by decide +kernel
theorem d_Mo_end_0 : decode prog_13_method_35_code 0 = .ok (.aload_n 0, 1) := by decide +kernel
theorem d_Mo_end_1 : decode prog_13_method_35_code 1 = .ok (.iload_n 1, 1) := by decide +kernel
theorem d_Mo_end_2 : decode prog_13_method_35_code 2 = .ok (.putfield 149, 3) := by decide +kernel
theorem d_Mo_end_5 : decode prog_13_method_35_code 5 = .ok (.aload_n 0, 1) := by decide +kernel
theorem d_Mo_end_6 : decode prog_13_method_35_code 6 = .ok (.getfield 153, 3) := by decide +kernel
theorem d_Mo_end_9 : decode prog_13_method_35_code 9 = .ok (.bipush 50, 2) := by decide +kernel
theorem d_Mo_end_11 : decode prog_13_method_35_code 11 = .ok (.if_icmp .ne 5, 3) := by decide +kernel
theorem d_Mo_end_14 : decode prog_13_method_35_code 14 = .ok (.iconst 4, 1) := by decide +kernel
theorem d_Mo_end_15 : decode prog_13_method_35_code 15 = .ok (.ireturn, 1) := by decide +kernel
theorem d_Mo_end_16 : decode prog_13_method_35_code 16 = .ok (.aload_n 0, 1) := by decide +kernel
theorem d_Mo_end_17 : decode prog_13_method_35_code 17 = .ok (.dup, 1) := by decide +kernel
theorem d_Mo_end_18 : decode prog_13_method_35_code 18 = .ok (.getfield 153, 3) := by decide +kernel
theorem d_Mo_end_21 : decode prog_13_method_35_code 21 = .ok (.iconst 1, 1) := by decide +kernel
theorem d_Mo_end_22 : decode prog_13_method_35_code 22 = .ok (.iadd, 1) := by decide +kernel
theorem d_Mo_end_23 : decode prog_13_method_35_code 23 = .ok (.putfield 153, 3) := by decide +kernel
theorem d_Mo_end_26 : decode prog_13_method_35_code 26 = .ok (.iload_n 2, 1) := by decide +kernel
theorem d_Mo_end_27 : decode prog_13_method_35_code 27 = .ok (.ifCond .lt 22, 3) := by decide +kernel
theorem d_Mo_end_30 : decode prog_13_method_35_code 30 = .ok (.aload_n 0, 1) := by decide +kernel
theorem d_Mo_end_31 : decode prog_13_method_35_code 31 = .ok (.getfield 56, 3) := by decide +kernel
theorem d_Mo_end_34 : decode prog_13_method_35_code 34 = .ok (.bipush 104, 2) := by decide +kernel
theorem d_Mo_end_36 : decode prog_13_method_35_code 36 = .ok (.iload_n 1, 1) := by decide +kernel
theorem d_Mo_end_37 : decode prog_13_method_35_code 37 = .ok (.imul, 1) := by decide +kernel
theorem d_Mo_end_38 : decode prog_13_method_35_code 38 = .ok (.iconst 2, 1) := by decide +kernel
theorem d_Mo_end_39 : decode prog_13_method_35_code 39 = .ok (.iadd, 1) := by decide +kernel
theorem d_Mo_end_40 : decode prog_13_method_35_code 40 = .ok (.laload, 1) := by decide +kernel
theorem d_Mo_end_41 : decode prog_13_method_35_code 41 = .ok (.lconst 0, 1) := by decide +kernel
theorem d_Mo_end_42 : decode prog_13_method_35_code 42 = .ok (.lcmp, 1) := by decide +kernel
theorem d_Mo_end_43 : decode prog_13_method_35_code 43 = .ok (.ifCond .le 6, 3) := by decide +kernel
theorem d_Mo_end_46 : decode prog_13_method_35_code 46 = .ok (.bipush 7, 2) := by decide +kernel
theorem d_Mo_end_48 : decode prog_13_method_35_code 48 = .ok (.ireturn, 1) := by decide +kernel
theorem d_Mo_end_49 : decode prog_13_method_35_code 49 = .ok (.aload_n 0, 1) := by decide +kernel
theorem d_Mo_end_50 : decode prog_13_method_35_code 50 = .ok (.iload_n 1, 1) := by decide +kernel
theorem d_Mo_end_51 : decode prog_13_method_35_code 51 = .ok (.invokevirtual 142, 3) := by decide +kernel
theorem d_Mo_end_54 : decode prog_13_method_35_code 54 = .ok (.pop, 1) := by decide +kernel
theorem d_Mo_end_55 : decode prog_13_method_35_code 55 = .ok (.bipush 6, 2) := by decide +kernel
theorem d_Mo_end_57 : decode prog_13_method_35_code 57 = .ok (.iload_n 2, 1) := by decide +kernel
theorem d_Mo_end_58 : decode prog_13_method_35_code 58 = .ok (.imul, 1) := by decide +kernel
theorem d_Mo_end_59 : decode prog_13_method_35_code 59 = .ok (.istore_n 3, 1) := by decide +kernel
theorem d_Mo_end_60 : decode prog_13_method_35_code 60 = .ok (.iload_n 2, 1) := by decide +kernel
theorem d_Mo_end_61 : decode prog_13_method_35_code 61 = .ok (.ifCond .lt 107, 3) := by decide +kernel
theorem d_Mo_end_64 : decode prog_13_method_35_code 64 = .ok (.iload_n 3, 1) := by decide +kernel
theorem d_Mo_end_65 : decode prog_13_method_35_code 65 = .ok (.bipush 6, 2) := by decide +kernel
theorem d_Mo_end_67 : decode prog_13_method_35_code 67 = .ok (.iload_n 2, 1) := by decide +kernel
theorem d_Mo_end_68 : decode prog_13_method_35_code 68 = .ok (.imul, 1) := by decide +kernel
theorem d_Mo_end_69 : decode prog_13_method_35_code 69 = .ok (.aload_n 0, 1) := by decide +kernel
theorem d_Mo_end_70 : decode prog_13_method_35_code 70 = .ok (.getfield 29, 3) := by decide +kernel
theorem d_Mo_end_73 : decode prog_13_method_35_code 73 = .ok (.iload_n 2, 1) := by decide +kernel
theorem d_Mo_end_74 : decode prog_13_method_35_code 74 = .ok (.iaload, 1) := by decide +kernel
theorem d_Mo_end_75 : decode prog_13_method_35_code 75 = .ok (.iadd, 1) := by decide +kernel
theorem d_Mo_end_76 : decode prog_13_method_35_code 76 = .ok (.if_icmp .ge 92, 3) := by decide +kernel
theorem d_Mo_end_79 : decode prog_13_method_35_code 79 = .ok (.aload_n 0, 1) := by decide +kernel
theorem d_Mo_end_80 : decode prog_13_method_35_code 80 = .ok (.iload_n 1, 1) := by decide +kernel
theorem d_Mo_end_81 : decode prog_13_method_35_code 81 = .ok (.aload_n 0, 1) := by decide +kernel
theorem d_Mo_end_82 : decode prog_13_method_35_code 82 = .ok (.getfield 32, 3) := by decide +kernel
theorem d_Mo_end_85 : decode prog_13_method_35_code 85 = .ok (.iload_n 3, 1) := by decide +kernel
theorem d_Mo_end_86 : decode prog_13_method_35_code 86 = .ok (.iaload, 1) := by decide +kernel
theorem d_Mo_end_87 : decode prog_13_method_35_code 87 = .ok (.invokevirtual 211, 3) := by decide +kernel
theorem d_Mo_end_90 : decode prog_13_method_35_code 90 = .ok (.lstore 4, 2) := by decide +kernel
theorem d_Mo_end_92 : decode prog_13_method_35_code 92 = .ok (.aload_n 0, 1) := by decide +kernel
theorem d_Mo_end_93 : decode prog_13_method_35_code 93 = .ok (.iload_n 1, 1) := by decide +kernel
theorem d_Mo_end_94 : decode prog_13_method_35_code 94 = .ok (.aload_n 0, 1) := by decide +kernel
theorem d_Mo_end_95 : decode prog_13_method_35_code 95 = .ok (.getfield 35, 3) := by decide +kernel
theorem d_Mo_end_98 : decode prog_13_method_35_code 98 = .ok (.iload_n 3, 1) := by decide +kernel
theorem d_Mo_end_99 : decode prog_13_method_35_code 99 = .ok (.iaload, 1) := by decide +kernel
theorem d_Mo_end_100 : decode prog_13_method_35_code 100 = .ok (.invokevirtual 211, 3) := by decide +kernel
theorem d_Mo_end_103 : decode prog_13_method_35_code 103 = .ok (.lstore 6, 2) := by decide +kernel
theorem d_Mo_end_105 : decode prog_13_method_35_code 105 = .ok (.lload 4, 2) := by decide +kernel
theorem d_Mo_end_107 : decode prog_13_method_35_code 107 = .ok (.lconst 0, 1) := by decide +kernel
theorem d_Mo_end_108 : decode prog_13_method_35_code 108 = .ok (.lcmp, 1) := by decide +kernel
theorem d_Mo_end_109 : decode prog_13_method_35_code 109 = .ok (.ifCond .lt 50, 3) := by decide +kernel
theorem d_Mo_end_112 : decode prog_13_method_35_code 112 = .ok (.lload 6, 2) := by decide +kernel
theorem d_Mo_end_114 : decode prog_13_method_35_code 114 = .ok (.lconst 0, 1) := by decide +kernel
theorem d_Mo_end_115 : decode prog_13_method_35_code 115 = .ok (.lcmp, 1) := by decide +kernel
theorem d_Mo_end_116 : decode prog_13_method_35_code 116 = .ok (.ifCond .lt 43, 3) := by decide +kernel
theorem d_Mo_end_119 : decode prog_13_method_35_code 119 = .ok (.aload_n 0, 1) := by decide +kernel
theorem d_Mo_end_120 : decode prog_13_method_35_code 120 = .ok (.lload 4, 2) := by decide +kernel
theorem d_Mo_end_122 : decode prog_13_method_35_code 122 = .ok (.aload_n 0, 1) := by decide +kernel
theorem d_Mo_end_123 : decode prog_13_method_35_code 123 = .ok (.iload_n 1, 1) := by decide +kernel
theorem d_Mo_end_124 : decode prog_13_method_35_code 124 = .ok (.aload_n 0, 1) := by decide +kernel
theorem d_Mo_end_125 : decode prog_13_method_35_code 125 = .ok (.getfield 32, 3) := by decide +kernel
theorem d_Mo_end_128 : decode prog_13_method_35_code 128 = .ok (.iload_n 3, 1) := by decide +kernel
theorem d_Mo_end_129 : decode prog_13_method_35_code 129 = .ok (.iaload, 1) := by decide +kernel
theorem d_Mo_end_130 : decode prog_13_method_35_code 130 = .ok (.invokevirtual 215, 3) := by decide +kernel
theorem d_Mo_end_133 : decode prog_13_method_35_code 133 = .ok (.lload 6, 2) := by decide +kernel
theorem d_Mo_end_135 : decode prog_13_method_35_code 135 = .ok (.aload_n 0, 1) := by decide +kernel
theorem d_Mo_end_136 : decode prog_13_method_35_code 136 = .ok (.iload_n 1, 1) := by decide +kernel
theorem d_Mo_end_137 : decode prog_13_method_35_code 137 = .ok (.aload_n 0, 1) := by decide +kernel
theorem d_Mo_end_138 : decode prog_13_method_35_code 138 = .ok (.getfield 35, 3) := by decide +kernel
theorem d_Mo_end_141 : decode prog_13_method_35_code 141 = .ok (.iload_n 3, 1) := by decide +kernel
theorem d_Mo_end_142 : decode prog_13_method_35_code 142 = .ok (.iaload, 1) := by decide +kernel
theorem d_Mo_end_143 : decode prog_13_method_35_code 143 = .ok (.invokevirtual 215, 3) := by decide +kernel
theorem d_Mo_end_146 : decode prog_13_method_35_code 146 = .ok (.aload_n 0, 1) := by decide +kernel
theorem d_Mo_end_147 : decode prog_13_method_35_code 147 = .ok (.getfield 38, 3) := by decide +kernel
theorem d_Mo_end_150 : decode prog_13_method_35_code 150 = .ok (.iload_n 3, 1) := by decide +kernel
theorem d_Mo_end_151 : decode prog_13_method_35_code 151 = .ok (.iaload, 1) := by decide +kernel
theorem d_Mo_end_152 : decode prog_13_method_35_code 152 = .ok (.i2l, 1) := by decide +kernel
theorem d_Mo_end_153 : decode prog_13_method_35_code 153 = .ok (.invokevirtual 200, 3) := by decide +kernel
theorem d_Mo_end_156 : decode prog_13_method_35_code 156 = .ok (.ifCond .ne 6, 3) := by decide +kernel
theorem d_Mo_end_159 : decode prog_13_method_35_code 159 = .ok (.bipush 8, 2) := by decide +kernel
theorem d_Mo_end_161 : decode prog_13_method_35_code 161 = .ok (.ireturn, 1) := by decide +kernel
theorem d_Mo_end_162 : decode prog_13_method_35_code 162 = .ok (.iinc 3 1, 3) := by decide +kernel
theorem d_Mo_end_165 : decode prog_13_method_35_code 165 = .ok (.goto (-105), 3) := by decide +kernel
theorem d_Mo_end_168 : decode prog_13_method_35_code 168 = .ok (.iconst 0, 1) := by decide +kernel
theorem d_Mo_end_169 : decode prog_13_method_35_code 169 = .ok (.istore_n 3, 1) := by decide +kernel
theorem d_Mo_end_170 : decode prog_13_method_35_code 170 = .ok (.iload_n 3, 1) := by decide +kernel
theorem d_Mo_end_171 : decode prog_13_method_35_code 171 = .ok (.iconst 2, 1) := by decide +kernel
theorem d_Mo_end_172 : decode prog_13_method_35_code 172 = .ok (.if_icmp .ge 198, 3) := by decide +kernel
theorem d_Mo_end_175 : decode prog_13_method_35_code 175 = .ok (.iconst 2, 1) := by decide +kernel
theorem d_Mo_end_176 : decode prog_13_method_35_code 176 = .ok (.iload_n 2, 1) := by decide +kernel
theorem d_Mo_end_177 : decode prog_13_method_35_code 177 = .ok (.imul, 1) := by decide +kernel
theorem d_Mo_end_178 : decode prog_13_method_35_code 178 = .ok (.iload_n 3, 1) := by decide +kernel
theorem d_Mo_end_179 : decode prog_13_method_35_code 179 = .ok (.iadd, 1) := by decide +kernel
theorem d_Mo_end_180 : decode prog_13_method_35_code 180 = .ok (.istore 4, 2) := by decide +kernel
theorem d_Mo_end_182 : decode prog_13_method_35_code 182 = .ok (.iload_n 2, 1) := by decide +kernel
theorem d_Mo_end_183 : decode prog_13_method_35_code 183 = .ok (.ifCond .lt 28, 3) := by decide +kernel
theorem d_Mo_end_186 : decode prog_13_method_35_code 186 = .ok (.aload_n 0, 1) := by decide +kernel
theorem d_Mo_end_187 : decode prog_13_method_35_code 187 = .ok (.getfield 56, 3) := by decide +kernel
theorem d_Mo_end_190 : decode prog_13_method_35_code 190 = .ok (.bipush 104, 2) := by decide +kernel
theorem d_Mo_end_192 : decode prog_13_method_35_code 192 = .ok (.iload_n 1, 1) := by decide +kernel
theorem d_Mo_end_193 : decode prog_13_method_35_code 193 = .ok (.imul, 1) := by decide +kernel
theorem d_Mo_end_194 : decode prog_13_method_35_code 194 = .ok (.bipush 99, 2) := by decide +kernel
theorem d_Mo_end_196 : decode prog_13_method_35_code 196 = .ok (.iadd, 1) := by decide +kernel
theorem d_Mo_end_197 : decode prog_13_method_35_code 197 = .ok (.iload_n 3, 1) := by decide +kernel
theorem d_Mo_end_198 : decode prog_13_method_35_code 198 = .ok (.iadd, 1) := by decide +kernel
theorem d_Mo_end_199 : decode prog_13_method_35_code 199 = .ok (.dup2, 1) := by decide +kernel
theorem d_Mo_end_200 : decode prog_13_method_35_code 200 = .ok (.laload, 1) := by decide +kernel
theorem d_Mo_end_201 : decode prog_13_method_35_code 201 = .ok (.aload_n 0, 1) := by decide +kernel
theorem d_Mo_end_202 : decode prog_13_method_35_code 202 = .ok (.getfield 41, 3) := by decide +kernel
theorem d_Mo_end_205 : decode prog_13_method_35_code 205 = .ok (.iload 4, 2) := by decide +kernel
theorem d_Mo_end_207 : decode prog_13_method_35_code 207 = .ok (.iaload, 1) := by decide +kernel
theorem d_Mo_end_208 : decode prog_13_method_35_code 208 = .ok (.i2l, 1) := by decide +kernel
theorem d_Mo_end_209 : decode prog_13_method_35_code 209 = .ok (.lsub, 1) := by decide +kernel
theorem d_Mo_end_210 : decode prog_13_method_35_code 210 = .ok (.lastore, 1) := by decide +kernel
theorem d_Mo_end_211 : decode prog_13_method_35_code 211 = .ok (.iconst 3, 1) := by decide +kernel
theorem d_Mo_end_212 : decode prog_13_method_35_code 212 = .ok (.iload 4, 2) := by decide +kernel
theorem d_Mo_end_214 : decode prog_13_method_35_code 214 = .ok (.imul, 1) := by decide +kernel
theorem d_Mo_end_215 : decode prog_13_method_35_code 215 = .ok (.istore 5, 2) := by decide +kernel
theorem d_Mo_end_217 : decode prog_13_method_35_code 217 = .ok (.iload_n 2, 1) := by decide +kernel
theorem d_Mo_end_218 : decode prog_13_method_35_code 218 = .ok (.ifCond .lt 124, 3) := by decide +kernel
theorem d_Mo_end_221 : decode prog_13_method_35_code 221 = .ok (.iload 5, 2) := by decide +kernel
theorem d_Mo_end_223 : decode prog_13_method_35_code 223 = .ok (.iconst 3, 1) := by decide +kernel
theorem d_Mo_end_224 : decode prog_13_method_35_code 224 = .ok (.iload 4, 2) := by decide +kernel
theorem d_Mo_end_226 : decode prog_13_method_35_code 226 = .ok (.imul, 1) := by decide +kernel
theorem d_Mo_end_227 : decode prog_13_method_35_code 227 = .ok (.aload_n 0, 1) := by decide +kernel
theorem d_Mo_end_228 : decode prog_13_method_35_code 228 = .ok (.getfield 44, 3) := by decide +kernel
theorem d_Mo_end_231 : decode prog_13_method_35_code 231 = .ok (.iload 4, 2) := by decide +kernel
theorem d_Mo_end_233 : decode prog_13_method_35_code 233 = .ok (.iaload, 1) := by decide +kernel
theorem d_Mo_end_234 : decode prog_13_method_35_code 234 = .ok (.iadd, 1) := by decide +kernel
theorem d_Mo_end_235 : decode prog_13_method_35_code 235 = .ok (.if_icmp .ge 107, 3) := by decide +kernel
theorem d_Mo_end_238 : decode prog_13_method_35_code 238 = .ok (.aload_n 0, 1) := by decide +kernel
theorem d_Mo_end_239 : decode prog_13_method_35_code 239 = .ok (.iload_n 1, 1) := by decide +kernel
theorem d_Mo_end_240 : decode prog_13_method_35_code 240 = .ok (.aload_n 0, 1) := by decide +kernel
theorem d_Mo_end_241 : decode prog_13_method_35_code 241 = .ok (.getfield 50, 3) := by decide +kernel
theorem d_Mo_end_244 : decode prog_13_method_35_code 244 = .ok (.iload 5, 2) := by decide +kernel
theorem d_Mo_end_246 : decode prog_13_method_35_code 246 = .ok (.iaload, 1) := by decide +kernel
theorem d_Mo_end_247 : decode prog_13_method_35_code 247 = .ok (.invokevirtual 211, 3) := by decide +kernel
theorem d_Mo_end_250 : decode prog_13_method_35_code 250 = .ok (.lstore 6, 2) := by decide +kernel
theorem d_Mo_end_252 : decode prog_13_method_35_code 252 = .ok (.aload_n 0, 1) := by decide +kernel
theorem d_Mo_end_253 : decode prog_13_method_35_code 253 = .ok (.iload_n 1, 1) := by decide +kernel
theorem d_Mo_end_254 : decode prog_13_method_35_code 254 = .ok (.aload_n 0, 1) := by decide +kernel
theorem d_Mo_end_255 : decode prog_13_method_35_code 255 = .ok (.getfield 53, 3) := by decide +kernel
theorem d_Mo_end_258 : decode prog_13_method_35_code 258 = .ok (.iload 5, 2) := by decide +kernel
theorem d_Mo_end_260 : decode prog_13_method_35_code 260 = .ok (.iaload, 1) := by decide +kernel
theorem d_Mo_end_261 : decode prog_13_method_35_code 261 = .ok (.invokevirtual 211, 3) := by decide +kernel
theorem d_Mo_end_264 : decode prog_13_method_35_code 264 = .ok (.lstore 8, 2) := by decide +kernel
theorem d_Mo_end_266 : decode prog_13_method_35_code 266 = .ok (.lload 6, 2) := by decide +kernel
theorem d_Mo_end_268 : decode prog_13_method_35_code 268 = .ok (.lconst 0, 1) := by decide +kernel
theorem d_Mo_end_269 : decode prog_13_method_35_code 269 = .ok (.lcmp, 1) := by decide +kernel
theorem d_Mo_end_270 : decode prog_13_method_35_code 270 = .ok (.ifCond .lt 10, 3) := by decide +kernel
theorem d_Mo_end_273 : decode prog_13_method_35_code 273 = .ok (.lload 8, 2) := by decide +kernel
theorem d_Mo_end_275 : decode prog_13_method_35_code 275 = .ok (.lconst 0, 1) := by decide +kernel
theorem d_Mo_end_276 : decode prog_13_method_35_code 276 = .ok (.lcmp, 1) := by decide +kernel
theorem d_Mo_end_277 : decode prog_13_method_35_code 277 = .ok (.ifCond .ge 6, 3) := by decide +kernel
theorem d_Mo_end_280 : decode prog_13_method_35_code 280 = .ok (.bipush 9, 2) := by decide +kernel
theorem d_Mo_end_282 : decode prog_13_method_35_code 282 = .ok (.ireturn, 1) := by decide +kernel
theorem d_Mo_end_283 : decode prog_13_method_35_code 283 = .ok (.aload_n 0, 1) := by decide +kernel
theorem d_Mo_end_284 : decode prog_13_method_35_code 284 = .ok (.iload_n 1, 1) := by decide +kernel
theorem d_Mo_end_285 : decode prog_13_method_35_code 285 = .ok (.iload_n 3, 1) := by decide +kernel
theorem d_Mo_end_286 : decode prog_13_method_35_code 286 = .ok (.ifCond .ne 8, 3) := by decide +kernel
theorem d_Mo_end_289 : decode prog_13_method_35_code 289 = .ok (.bipush 49, 2) := by decide +kernel
theorem d_Mo_end_291 : decode prog_13_method_35_code 291 = .ok (.goto 5, 3) := by decide +kernel
theorem d_Mo_end_294 : decode prog_13_method_35_code 294 = .ok (.bipush 74, 2) := by decide +kernel
theorem d_Mo_end_296 : decode prog_13_method_35_code 296 = .ok (.aload_n 0, 1) := by decide +kernel
theorem d_Mo_end_297 : decode prog_13_method_35_code 297 = .ok (.getfield 47, 3) := by decide +kernel
theorem d_Mo_end_300 : decode prog_13_method_35_code 300 = .ok (.iload 5, 2) := by decide +kernel
theorem d_Mo_end_302 : decode prog_13_method_35_code 302 = .ok (.iaload, 1) := by decide +kernel
theorem d_Mo_end_303 : decode prog_13_method_35_code 303 = .ok (.ineg, 1) := by decide +kernel
theorem d_Mo_end_304 : decode prog_13_method_35_code 304 = .ok (.i2l, 1) := by decide +kernel
theorem d_Mo_end_305 : decode prog_13_method_35_code 305 = .ok (.lload 6, 2) := by decide +kernel
theorem d_Mo_end_307 : decode prog_13_method_35_code 307 = .ok (.aload_n 0, 1) := by decide +kernel
theorem d_Mo_end_308 : decode prog_13_method_35_code 308 = .ok (.iload_n 1, 1) := by decide +kernel
theorem d_Mo_end_309 : decode prog_13_method_35_code 309 = .ok (.aload_n 0, 1) := by decide +kernel
theorem d_Mo_end_310 : decode prog_13_method_35_code 310 = .ok (.getfield 50, 3) := by decide +kernel
theorem d_Mo_end_313 : decode prog_13_method_35_code 313 = .ok (.iload 5, 2) := by decide +kernel
theorem d_Mo_end_315 : decode prog_13_method_35_code 315 = .ok (.iaload, 1) := by decide +kernel
theorem d_Mo_end_316 : decode prog_13_method_35_code 316 = .ok (.invokevirtual 215, 3) := by decide +kernel
theorem d_Mo_end_319 : decode prog_13_method_35_code 319 = .ok (.lload 8, 2) := by decide +kernel
theorem d_Mo_end_321 : decode prog_13_method_35_code 321 = .ok (.aload_n 0, 1) := by decide +kernel
theorem d_Mo_end_322 : decode prog_13_method_35_code 322 = .ok (.iload_n 1, 1) := by decide +kernel
theorem d_Mo_end_323 : decode prog_13_method_35_code 323 = .ok (.aload_n 0, 1) := by decide +kernel
theorem d_Mo_end_324 : decode prog_13_method_35_code 324 = .ok (.getfield 53, 3) := by decide +kernel
theorem d_Mo_end_327 : decode prog_13_method_35_code 327 = .ok (.iload 5, 2) := by decide +kernel
theorem d_Mo_end_329 : decode prog_13_method_35_code 329 = .ok (.iaload, 1) := by decide +kernel
theorem d_Mo_end_330 : decode prog_13_method_35_code 330 = .ok (.invokevirtual 215, 3) := by decide +kernel
theorem d_Mo_end_333 : decode prog_13_method_35_code 333 = .ok (.invokevirtual 135, 3) := by decide +kernel
theorem d_Mo_end_336 : decode prog_13_method_35_code 336 = .ok (.iinc 5 1, 3) := by decide +kernel
theorem d_Mo_end_339 : decode prog_13_method_35_code 339 = .ok (.goto (-122), 3) := by decide +kernel
theorem d_Mo_end_342 : decode prog_13_method_35_code 342 = .ok (.aload_n 0, 1) := by decide +kernel
theorem d_Mo_end_343 : decode prog_13_method_35_code 343 = .ok (.iload_n 1, 1) := by decide +kernel
theorem d_Mo_end_344 : decode prog_13_method_35_code 344 = .ok (.iload_n 3, 1) := by decide +kernel
theorem d_Mo_end_345 : decode prog_13_method_35_code 345 = .ok (.ifCond .ne 8, 3) := by decide +kernel
theorem d_Mo_end_348 : decode prog_13_method_35_code 348 = .ok (.bipush 49, 2) := by decide +kernel
theorem d_Mo_end_350 : decode prog_13_method_35_code 350 = .ok (.goto 5, 3) := by decide +kernel
theorem d_Mo_end_353 : decode prog_13_method_35_code 353 = .ok (.bipush 74, 2) := by decide +kernel
theorem d_Mo_end_355 : decode prog_13_method_35_code 355 = .ok (.invokevirtual 218, 3) := by decide +kernel
theorem d_Mo_end_358 : decode prog_13_method_35_code 358 = .ok (.ifCond .ne 6, 3) := by decide +kernel
theorem d_Mo_end_361 : decode prog_13_method_35_code 361 = .ok (.bipush 9, 2) := by decide +kernel
theorem d_Mo_end_363 : decode prog_13_method_35_code 363 = .ok (.ireturn, 1) := by decide +kernel
theorem d_Mo_end_364 : decode prog_13_method_35_code 364 = .ok (.iinc 3 1, 3) := by decide +kernel
theorem d_Mo_end_367 : decode prog_13_method_35_code 367 = .ok (.goto (-197), 3) := by decide +kernel
theorem d_Mo_end_370 : decode prog_13_method_35_code 370 = .ok (.iconst 0, 1) := by decide +kernel
theorem d_Mo_end_371 : decode prog_13_method_35_code 371 = .ok (.ireturn, 1) := by decide +kernel
theorem d_Mo_localSide_0 : decode prog_13_method_33_code 0 = .ok (.iload_n 2, 1) := by decide +kernel
theorem d_Mo_localSide_1 : decode prog_13_method_33_code 1 = .ok (.iconst 4, 1) := by decide +kernel
theorem d_Mo_localSide_2 : decode prog_13_method_33_code 2 = .ok (.if_icmp .ne 9, 3) := by decide +kernel
theorem d_Mo_localSide_5 : decode prog_13_method_33_code 5 = .ok (.ldc2_w 110, 3) := by decide +kernel
theorem d_Mo_localSide_8 : decode prog_13_method_33_code 8 = .ok (.goto 18, 3) := by decide +kernel
theorem d_Mo_localSide_11 : decode prog_13_method_33_code 11 = .ok (.aload_n 0, 1) := by decide +kernel
theorem d_Mo_localSide_12 : decode prog_13_method_33_code 12 = .ok (.getfield 56, 3) := by decide +kernel
theorem d_Mo_localSide_15 : decode prog_13_method_33_code 15 = .ok (.bipush 104, 2) := by decide +kernel
theorem d_Mo_localSide_17 : decode prog_13_method_33_code 17 = .ok (.iload_n 1, 1) := by decide +kernel
theorem d_Mo_localSide_18 : decode prog_13_method_33_code 18 = .ok (.imul, 1) := by decide +kernel
theorem d_Mo_localSide_19 : decode prog_13_method_33_code 19 = .ok (.iconst 4, 1) := by decide +kernel
theorem d_Mo_localSide_20 : decode prog_13_method_33_code 20 = .ok (.iadd, 1) := by decide +kernel
theorem d_Mo_localSide_21 : decode prog_13_method_33_code 21 = .ok (.iconst 2, 1) := by decide +kernel
theorem d_Mo_localSide_22 : decode prog_13_method_33_code 22 = .ok (.iload_n 2, 1) := by decide +kernel
theorem d_Mo_localSide_23 : decode prog_13_method_33_code 23 = .ok (.imul, 1) := by decide +kernel
theorem d_Mo_localSide_24 : decode prog_13_method_33_code 24 = .ok (.iadd, 1) := by decide +kernel
theorem d_Mo_localSide_25 : decode prog_13_method_33_code 25 = .ok (.laload, 1) := by decide +kernel
theorem d_Mo_localSide_26 : decode prog_13_method_33_code 26 = .ok (.lreturn, 1) := by decide +kernel
theorem d_Mo_localNumber_0 : decode prog_13_method_34_code 0 = .ok (.iload_n 2, 1) := by decide +kernel
theorem d_Mo_localNumber_1 : decode prog_13_method_34_code 1 = .ok (.iconst 4, 1) := by decide +kernel
theorem d_Mo_localNumber_2 : decode prog_13_method_34_code 2 = .ok (.if_icmp .ne 7, 3) := by decide +kernel
theorem d_Mo_localNumber_5 : decode prog_13_method_34_code 5 = .ok (.lconst 0, 1) := by decide +kernel
theorem d_Mo_localNumber_6 : decode prog_13_method_34_code 6 = .ok (.goto 18, 3) := by decide +kernel
theorem d_Mo_localNumber_9 : decode prog_13_method_34_code 9 = .ok (.aload_n 0, 1) := by decide +kernel
theorem d_Mo_localNumber_10 : decode prog_13_method_34_code 10 = .ok (.getfield 56, 3) := by decide +kernel
theorem d_Mo_localNumber_13 : decode prog_13_method_34_code 13 = .ok (.bipush 104, 2) := by decide +kernel
theorem d_Mo_localNumber_15 : decode prog_13_method_34_code 15 = .ok (.iload_n 1, 1) := by decide +kernel
theorem d_Mo_localNumber_16 : decode prog_13_method_34_code 16 = .ok (.imul, 1) := by decide +kernel
theorem d_Mo_localNumber_17 : decode prog_13_method_34_code 17 = .ok (.iconst 5, 1) := by decide +kernel
theorem d_Mo_localNumber_18 : decode prog_13_method_34_code 18 = .ok (.iadd, 1) := by decide +kernel
theorem d_Mo_localNumber_19 : decode prog_13_method_34_code 19 = .ok (.iconst 2, 1) := by decide +kernel
theorem d_Mo_localNumber_20 : decode prog_13_method_34_code 20 = .ok (.iload_n 2, 1) := by decide +kernel
theorem d_Mo_localNumber_21 : decode prog_13_method_34_code 21 = .ok (.imul, 1) := by decide +kernel
theorem d_Mo_localNumber_22 : decode prog_13_method_34_code 22 = .ok (.iadd, 1) := by decide +kernel
theorem d_Mo_localNumber_23 : decode prog_13_method_34_code 23 = .ok (.laload, 1) := by decide +kernel
theorem d_Mo_localNumber_24 : decode prog_13_method_34_code 24 = .ok (.lreturn, 1) := by decide +kernel
theorem d_Mo_follows_0 : decode prog_13_method_15_code 0 = .ok (.aload_n 0, 1) := by decide +kernel
theorem d_Mo_follows_1 : decode prog_13_method_15_code 1 = .ok (.getfield 60, 3) := by decide +kernel
theorem d_Mo_follows_4 : decode prog_13_method_15_code 4 = .ok (.iconst 5, 1) := by decide +kernel
theorem d_Mo_follows_5 : decode prog_13_method_15_code 5 = .ok (.lload_n 1, 1) := by decide +kernel
theorem d_Mo_follows_6 : decode prog_13_method_15_code 6 = .ok (.l2i, 1) := by decide +kernel
theorem d_Mo_follows_7 : decode prog_13_method_15_code 7 = .ok (.imul, 1) := by decide +kernel
theorem d_Mo_follows_8 : decode prog_13_method_15_code 8 = .ok (.lload 5, 2) := by decide +kernel
theorem d_Mo_follows_10 : decode prog_13_method_15_code 10 = .ok (.l2i, 1) := by decide +kernel
theorem d_Mo_follows_11 : decode prog_13_method_15_code 11 = .ok (.iadd, 1) := by decide +kernel
theorem d_Mo_follows_12 : decode prog_13_method_15_code 12 = .ok (.laload, 1) := by decide +kernel
theorem d_Mo_follows_13 : decode prog_13_method_15_code 13 = .ok (.lstore 11, 2) := by decide +kernel
theorem d_Mo_follows_15 : decode prog_13_method_15_code 15 = .ok (.lload 11, 2) := by decide +kernel
theorem d_Mo_follows_17 : decode prog_13_method_15_code 17 = .ok (.ldc2_w 124, 3) := by decide +kernel
theorem d_Mo_follows_20 : decode prog_13_method_15_code 20 = .ok (.lcmp, 1) := by decide +kernel
theorem d_Mo_follows_21 : decode prog_13_method_15_code 21 = .ok (.ifCond .ge 20, 3) := by decide +kernel
theorem d_Mo_follows_24 : decode prog_13_method_15_code 24 = .ok (.lload 11, 2) := by decide +kernel
theorem d_Mo_follows_26 : decode prog_13_method_15_code 26 = .ok (.lload_n 3, 1) := by decide +kernel
theorem d_Mo_follows_27 : decode prog_13_method_15_code 27 = .ok (.ladd, 1) := by decide +kernel
theorem d_Mo_follows_28 : decode prog_13_method_15_code 28 = .ok (.lload 7, 2) := by decide +kernel
theorem d_Mo_follows_30 : decode prog_13_method_15_code 30 = .ok (.lsub, 1) := by decide +kernel
theorem d_Mo_follows_31 : decode prog_13_method_15_code 31 = .ok (.lload 9, 2) := by decide +kernel
theorem d_Mo_follows_33 : decode prog_13_method_15_code 33 = .ok (.lcmp, 1) := by decide +kernel
theorem d_Mo_follows_34 : decode prog_13_method_15_code 34 = .ok (.ifCond .gt 7, 3) := by decide +kernel
theorem d_Mo_follows_37 : decode prog_13_method_15_code 37 = .ok (.iconst 1, 1) := by decide +kernel
theorem d_Mo_follows_38 : decode prog_13_method_15_code 38 = .ok (.goto 4, 3) := by decide +kernel
theorem d_Mo_follows_41 : decode prog_13_method_15_code 41 = .ok (.iconst 0, 1) := by decide +kernel
theorem d_Mo_follows_42 : decode prog_13_method_15_code 42 = .ok (.ireturn, 1) := by decide +kernel
theorem d_Mo_shown_0 : decode prog_13_method_17_code 0 = .ok (.bipush 104, 2) := by decide +kernel
theorem d_Mo_shown_2 : decode prog_13_method_17_code 2 = .ok (.iload_n 1, 1) := by decide +kernel
theorem d_Mo_shown_3 : decode prog_13_method_17_code 3 = .ok (.imul, 1) := by decide +kernel
theorem d_Mo_shown_4 : decode prog_13_method_17_code 4 = .ok (.istore_n 3, 1) := by decide +kernel
theorem d_Mo_shown_5 : decode prog_13_method_17_code 5 = .ok (.aload_n 0, 1) := by decide +kernel
theorem d_Mo_shown_6 : decode prog_13_method_17_code 6 = .ok (.getfield 56, 3) := by decide +kernel
theorem d_Mo_shown_9 : decode prog_13_method_17_code 9 = .ok (.iload_n 3, 1) := by decide +kernel
theorem d_Mo_shown_10 : decode prog_13_method_17_code 10 = .ok (.iload_n 2, 1) := by decide +kernel
theorem d_Mo_shown_11 : decode prog_13_method_17_code 11 = .ok (.bipush 49, 2) := by decide +kernel
theorem d_Mo_shown_13 : decode prog_13_method_17_code 13 = .ok (.if_icmp .ne 8, 3) := by decide +kernel
theorem d_Mo_shown_16 : decode prog_13_method_17_code 16 = .ok (.bipush 99, 2) := by decide +kernel
theorem d_Mo_shown_18 : decode prog_13_method_17_code 18 = .ok (.goto 5, 3) := by decide +kernel
theorem d_Mo_shown_21 : decode prog_13_method_17_code 21 = .ok (.bipush 100, 2) := by decide +kernel
theorem d_Mo_shown_23 : decode prog_13_method_17_code 23 = .ok (.iadd, 1) := by decide +kernel
theorem d_Mo_shown_24 : decode prog_13_method_17_code 24 = .ok (.laload, 1) := by decide +kernel
theorem d_Mo_shown_25 : decode prog_13_method_17_code 25 = .ok (.lstore 4, 2) := by decide +kernel
theorem d_Mo_shown_27 : decode prog_13_method_17_code 27 = .ok (.iconst 1, 1) := by decide +kernel
theorem d_Mo_shown_28 : decode prog_13_method_17_code 28 = .ok (.istore 6, 2) := by decide +kernel
theorem d_Mo_shown_30 : decode prog_13_method_17_code 30 = .ok (.iconst 0, 1) := by decide +kernel
theorem d_Mo_shown_31 : decode prog_13_method_17_code 31 = .ok (.istore 7, 2) := by decide +kernel
theorem d_Mo_shown_33 : decode prog_13_method_17_code 33 = .ok (.iload 7, 2) := by decide +kernel
theorem d_Mo_shown_35 : decode prog_13_method_17_code 35 = .ok (.iconst 5, 1) := by decide +kernel
theorem d_Mo_shown_36 : decode prog_13_method_17_code 36 = .ok (.if_icmp .ge 168, 3) := by decide +kernel
theorem d_Mo_shown_39 : decode prog_13_method_17_code 39 = .ok (.iload 7, 2) := by decide +kernel
theorem d_Mo_shown_41 : decode prog_13_method_17_code 41 = .ok (.iconst 1, 1) := by decide +kernel
theorem d_Mo_shown_42 : decode prog_13_method_17_code 42 = .ok (.iadd, 1) := by decide +kernel
theorem d_Mo_shown_43 : decode prog_13_method_17_code 43 = .ok (.istore 8, 2) := by decide +kernel
theorem d_Mo_shown_45 : decode prog_13_method_17_code 45 = .ok (.iload 8, 2) := by decide +kernel
theorem d_Mo_shown_47 : decode prog_13_method_17_code 47 = .ok (.iconst 5, 1) := by decide +kernel
theorem d_Mo_shown_48 : decode prog_13_method_17_code 48 = .ok (.if_icmp .ge 150, 3) := by decide +kernel
theorem d_Mo_shown_51 : decode prog_13_method_17_code 51 = .ok (.aload_n 0, 1) := by decide +kernel
theorem d_Mo_shown_52 : decode prog_13_method_17_code 52 = .ok (.getfield 56, 3) := by decide +kernel
theorem d_Mo_shown_55 : decode prog_13_method_17_code 55 = .ok (.iload_n 3, 1) := by decide +kernel
theorem d_Mo_shown_56 : decode prog_13_method_17_code 56 = .ok (.iload_n 2, 1) := by decide +kernel
theorem d_Mo_shown_57 : decode prog_13_method_17_code 57 = .ok (.iadd, 1) := by decide +kernel
theorem d_Mo_shown_58 : decode prog_13_method_17_code 58 = .ok (.iconst 5, 1) := by decide +kernel
theorem d_Mo_shown_59 : decode prog_13_method_17_code 59 = .ok (.iload 7, 2) := by decide +kernel
theorem d_Mo_shown_61 : decode prog_13_method_17_code 61 = .ok (.imul, 1) := by decide +kernel
theorem d_Mo_shown_62 : decode prog_13_method_17_code 62 = .ok (.iadd, 1) := by decide +kernel
theorem d_Mo_shown_63 : decode prog_13_method_17_code 63 = .ok (.iload 8, 2) := by decide +kernel
theorem d_Mo_shown_65 : decode prog_13_method_17_code 65 = .ok (.iadd, 1) := by decide +kernel
theorem d_Mo_shown_66 : decode prog_13_method_17_code 66 = .ok (.laload, 1) := by decide +kernel
theorem d_Mo_shown_67 : decode prog_13_method_17_code 67 = .ok (.aload_n 0, 1) := by decide +kernel
theorem d_Mo_shown_68 : decode prog_13_method_17_code 68 = .ok (.getfield 56, 3) := by decide +kernel
theorem d_Mo_shown_71 : decode prog_13_method_17_code 71 = .ok (.iload_n 3, 1) := by decide +kernel
theorem d_Mo_shown_72 : decode prog_13_method_17_code 72 = .ok (.iload_n 2, 1) := by decide +kernel
theorem d_Mo_shown_73 : decode prog_13_method_17_code 73 = .ok (.iadd, 1) := by decide +kernel
theorem d_Mo_shown_74 : decode prog_13_method_17_code 74 = .ok (.iconst 5, 1) := by decide +kernel
theorem d_Mo_shown_75 : decode prog_13_method_17_code 75 = .ok (.iload 8, 2) := by decide +kernel
theorem d_Mo_shown_77 : decode prog_13_method_17_code 77 = .ok (.imul, 1) := by decide +kernel
theorem d_Mo_shown_78 : decode prog_13_method_17_code 78 = .ok (.iadd, 1) := by decide +kernel
theorem d_Mo_shown_79 : decode prog_13_method_17_code 79 = .ok (.iload 7, 2) := by decide +kernel
theorem d_Mo_shown_81 : decode prog_13_method_17_code 81 = .ok (.iadd, 1) := by decide +kernel
theorem d_Mo_shown_82 : decode prog_13_method_17_code 82 = .ok (.laload, 1) := by decide +kernel
theorem d_Mo_shown_83 : decode prog_13_method_17_code 83 = .ok (.lsub, 1) := by decide +kernel
theorem d_Mo_shown_84 : decode prog_13_method_17_code 84 = .ok (.lstore 9, 2) := by decide +kernel
theorem d_Mo_shown_86 : decode prog_13_method_17_code 86 = .ok (.lload 9, 2) := by decide +kernel
theorem d_Mo_shown_88 : decode prog_13_method_17_code 88 = .ok (.lconst 0, 1) := by decide +kernel
theorem d_Mo_shown_89 : decode prog_13_method_17_code 89 = .ok (.lcmp, 1) := by decide +kernel
theorem d_Mo_shown_90 : decode prog_13_method_17_code 90 = .ok (.ifCond .le 18, 3) := by decide +kernel
theorem d_Mo_shown_93 : decode prog_13_method_17_code 93 = .ok (.aload_n 0, 1) := by decide +kernel
theorem d_Mo_shown_94 : decode prog_13_method_17_code 94 = .ok (.getfield 60, 3) := by decide +kernel
theorem d_Mo_shown_97 : decode prog_13_method_17_code 97 = .ok (.iconst 5, 1) := by decide +kernel
theorem d_Mo_shown_98 : decode prog_13_method_17_code 98 = .ok (.iload 8, 2) := by decide +kernel
theorem d_Mo_shown_100 : decode prog_13_method_17_code 100 = .ok (.imul, 1) := by decide +kernel
theorem d_Mo_shown_101 : decode prog_13_method_17_code 101 = .ok (.iload 7, 2) := by decide +kernel
theorem d_Mo_shown_103 : decode prog_13_method_17_code 103 = .ok (.iadd, 1) := by decide +kernel
theorem d_Mo_shown_104 : decode prog_13_method_17_code 104 = .ok (.laload, 1) := by decide +kernel
theorem d_Mo_shown_105 : decode prog_13_method_17_code 105 = .ok (.goto 15, 3) := by decide +kernel
theorem d_Mo_shown_108 : decode prog_13_method_17_code 108 = .ok (.aload_n 0, 1) := by decide +kernel
theorem d_Mo_shown_109 : decode prog_13_method_17_code 109 = .ok (.getfield 60, 3) := by decide +kernel
theorem d_Mo_shown_112 : decode prog_13_method_17_code 112 = .ok (.iconst 5, 1) := by decide +kernel
theorem d_Mo_shown_113 : decode prog_13_method_17_code 113 = .ok (.iload 7, 2) := by decide +kernel
theorem d_Mo_shown_115 : decode prog_13_method_17_code 115 = .ok (.imul, 1) := by decide +kernel
theorem d_Mo_shown_116 : decode prog_13_method_17_code 116 = .ok (.iload 8, 2) := by decide +kernel
theorem d_Mo_shown_118 : decode prog_13_method_17_code 118 = .ok (.iadd, 1) := by decide +kernel
theorem d_Mo_shown_119 : decode prog_13_method_17_code 119 = .ok (.laload, 1) := by decide +kernel
theorem d_Mo_shown_120 : decode prog_13_method_17_code 120 = .ok (.lstore 11, 2) := by decide +kernel
theorem d_Mo_shown_122 : decode prog_13_method_17_code 122 = .ok (.iload 6, 2) := by decide +kernel
theorem d_Mo_shown_124 : decode prog_13_method_17_code 124 = .ok (.ifCond .eq 23, 3) := by decide +kernel
theorem d_Mo_shown_127 : decode prog_13_method_17_code 127 = .ok (.lload 9, 2) := by decide +kernel
theorem d_Mo_shown_129 : decode prog_13_method_17_code 129 = .ok (.lconst 0, 1) := by decide +kernel
theorem d_Mo_shown_130 : decode prog_13_method_17_code 130 = .ok (.lcmp, 1) := by decide +kernel
theorem d_Mo_shown_131 : decode prog_13_method_17_code 131 = .ok (.ifCond .eq 12, 3) := by decide +kernel
theorem d_Mo_shown_134 : decode prog_13_method_17_code 134 = .ok (.lload 11, 2) := by decide +kernel
theorem d_Mo_shown_136 : decode prog_13_method_17_code 136 = .ok (.ldc2_w 124, 3) := by decide +kernel
theorem d_Mo_shown_139 : decode prog_13_method_17_code 139 = .ok (.lcmp, 1) := by decide +kernel
theorem d_Mo_shown_140 : decode prog_13_method_17_code 140 = .ok (.ifCond .ge 7, 3) := by decide +kernel
theorem d_Mo_shown_143 : decode prog_13_method_17_code 143 = .ok (.iconst 1, 1) := by decide +kernel
theorem d_Mo_shown_144 : decode prog_13_method_17_code 144 = .ok (.goto 4, 3) := by decide +kernel
theorem d_Mo_shown_147 : decode prog_13_method_17_code 147 = .ok (.iconst 0, 1) := by decide +kernel
theorem d_Mo_shown_148 : decode prog_13_method_17_code 148 = .ok (.istore 6, 2) := by decide +kernel
theorem d_Mo_shown_150 : decode prog_13_method_17_code 150 = .ok (.lload 9, 2) := by decide +kernel
theorem d_Mo_shown_152 : decode prog_13_method_17_code 152 = .ok (.lconst 0, 1) := by decide +kernel
theorem d_Mo_shown_153 : decode prog_13_method_17_code 153 = .ok (.lcmp, 1) := by decide +kernel
theorem d_Mo_shown_154 : decode prog_13_method_17_code 154 = .ok (.ifCond .eq 38, 3) := by decide +kernel
theorem d_Mo_shown_157 : decode prog_13_method_17_code 157 = .ok (.lload 11, 2) := by decide +kernel
theorem d_Mo_shown_159 : decode prog_13_method_17_code 159 = .ok (.ldc2_w 124, 3) := by decide +kernel
theorem d_Mo_shown_162 : decode prog_13_method_17_code 162 = .ok (.lcmp, 1) := by decide +kernel
theorem d_Mo_shown_163 : decode prog_13_method_17_code 163 = .ok (.ifCond .ge 29, 3) := by decide +kernel
theorem d_Mo_shown_166 : decode prog_13_method_17_code 166 = .ok (.lload 4, 2) := by decide +kernel
theorem d_Mo_shown_168 : decode prog_13_method_17_code 168 = .ok (.lload 9, 2) := by decide +kernel
theorem d_Mo_shown_170 : decode prog_13_method_17_code 170 = .ok (.lconst 0, 1) := by decide +kernel
theorem d_Mo_shown_171 : decode prog_13_method_17_code 171 = .ok (.lcmp, 1) := by decide +kernel
theorem d_Mo_shown_172 : decode prog_13_method_17_code 172 = .ok (.ifCond .le 12, 3) := by decide +kernel
theorem d_Mo_shown_175 : decode prog_13_method_17_code 175 = .ok (.lload 9, 2) := by decide +kernel
theorem d_Mo_shown_177 : decode prog_13_method_17_code 177 = .ok (.lneg, 1) := by decide +kernel
theorem d_Mo_shown_178 : decode prog_13_method_17_code 178 = .ok (.lload 11, 2) := by decide +kernel
theorem d_Mo_shown_180 : decode prog_13_method_17_code 180 = .ok (.lmul, 1) := by decide +kernel
theorem d_Mo_shown_181 : decode prog_13_method_17_code 181 = .ok (.goto 8, 3) := by decide +kernel
theorem d_Mo_shown_184 : decode prog_13_method_17_code 184 = .ok (.lload 9, 2) := by decide +kernel
theorem d_Mo_shown_186 : decode prog_13_method_17_code 186 = .ok (.lload 11, 2) := by decide +kernel
theorem d_Mo_shown_188 : decode prog_13_method_17_code 188 = .ok (.lmul, 1) := by decide +kernel
theorem d_Mo_shown_189 : decode prog_13_method_17_code 189 = .ok (.ladd, 1) := by decide +kernel
theorem d_Mo_shown_190 : decode prog_13_method_17_code 190 = .ok (.lstore 4, 2) := by decide +kernel
theorem d_Mo_shown_192 : decode prog_13_method_17_code 192 = .ok (.iinc 8 1, 3) := by decide +kernel
theorem d_Mo_shown_195 : decode prog_13_method_17_code 195 = .ok (.goto (-150), 3) := by decide +kernel
theorem d_Mo_shown_198 : decode prog_13_method_17_code 198 = .ok (.iinc 7 1, 3) := by decide +kernel
theorem d_Mo_shown_201 : decode prog_13_method_17_code 201 = .ok (.goto (-168), 3) := by decide +kernel
theorem d_Mo_shown_204 : decode prog_13_method_17_code 204 = .ok (.iload 6, 2) := by decide +kernel
theorem d_Mo_shown_206 : decode prog_13_method_17_code 206 = .ok (.ifCond .eq 14, 3) := by decide +kernel
theorem d_Mo_shown_209 : decode prog_13_method_17_code 209 = .ok (.lload 4, 2) := by decide +kernel
theorem d_Mo_shown_211 : decode prog_13_method_17_code 211 = .ok (.lconst 0, 1) := by decide +kernel
theorem d_Mo_shown_212 : decode prog_13_method_17_code 212 = .ok (.lcmp, 1) := by decide +kernel
theorem d_Mo_shown_213 : decode prog_13_method_17_code 213 = .ok (.ifCond .lt 7, 3) := by decide +kernel
theorem d_Mo_shown_216 : decode prog_13_method_17_code 216 = .ok (.iconst 1, 1) := by decide +kernel
theorem d_Mo_shown_217 : decode prog_13_method_17_code 217 = .ok (.goto 4, 3) := by decide +kernel
theorem d_Mo_shown_220 : decode prog_13_method_17_code 220 = .ok (.iconst 0, 1) := by decide +kernel
theorem d_Mo_shown_221 : decode prog_13_method_17_code 221 = .ok (.ireturn, 1) := by decide +kernel
theorem d_Mo_part_0 : decode prog_13_method_27_code 0 = .ok (.aload_n 0, 1) := by decide +kernel
theorem d_Mo_part_1 : decode prog_13_method_27_code 1 = .ok (.iload_n 1, 1) := by decide +kernel
theorem d_Mo_part_2 : decode prog_13_method_27_code 2 = .ok (.invokevirtual 189, 3) := by decide +kernel
theorem d_Mo_part_5 : decode prog_13_method_27_code 5 = .ok (.istore 4, 2) := by decide +kernel
theorem d_Mo_part_7 : decode prog_13_method_27_code 7 = .ok (.aload_n 0, 1) := by decide +kernel
theorem d_Mo_part_8 : decode prog_13_method_27_code 8 = .ok (.iload_n 1, 1) := by decide +kernel
theorem d_Mo_part_9 : decode prog_13_method_27_code 9 = .ok (.invokevirtual 189, 3) := by decide +kernel
theorem d_Mo_part_12 : decode prog_13_method_27_code 12 = .ok (.istore 5, 2) := by decide +kernel
theorem d_Mo_part_14 : decode prog_13_method_27_code 14 = .ok (.aload_n 0, 1) := by decide +kernel
theorem d_Mo_part_15 : decode prog_13_method_27_code 15 = .ok (.getfield 56, 3) := by decide +kernel
theorem d_Mo_part_18 : decode prog_13_method_27_code 18 = .ok (.iload 5, 2) := by decide +kernel
theorem d_Mo_part_20 : decode prog_13_method_27_code 20 = .ok (.laload, 1) := by decide +kernel
theorem d_Mo_part_21 : decode prog_13_method_27_code 21 = .ok (.lconst 0, 1) := by decide +kernel
theorem d_Mo_part_22 : decode prog_13_method_27_code 22 = .ok (.lcmp, 1) := by decide +kernel
theorem d_Mo_part_23 : decode prog_13_method_27_code 23 = .ok (.ifCond .lt 19, 3) := by decide +kernel
theorem d_Mo_part_26 : decode prog_13_method_27_code 26 = .ok (.aload_n 0, 1) := by decide +kernel
theorem d_Mo_part_27 : decode prog_13_method_27_code 27 = .ok (.getfield 56, 3) := by decide +kernel
theorem d_Mo_part_30 : decode prog_13_method_27_code 30 = .ok (.iload 4, 2) := by decide +kernel
theorem d_Mo_part_32 : decode prog_13_method_27_code 32 = .ok (.laload, 1) := by decide +kernel
theorem d_Mo_part_33 : decode prog_13_method_27_code 33 = .ok (.lconst 0, 1) := by decide +kernel
theorem d_Mo_part_34 : decode prog_13_method_27_code 34 = .ok (.lcmp, 1) := by decide +kernel
theorem d_Mo_part_35 : decode prog_13_method_27_code 35 = .ok (.ifCond .lt 7, 3) := by decide +kernel
theorem d_Mo_part_38 : decode prog_13_method_27_code 38 = .ok (.iconst 1, 1) := by decide +kernel
theorem d_Mo_part_39 : decode prog_13_method_27_code 39 = .ok (.goto 4, 3) := by decide +kernel
theorem d_Mo_part_42 : decode prog_13_method_27_code 42 = .ok (.iconst 0, 1) := by decide +kernel
theorem d_Mo_part_43 : decode prog_13_method_27_code 43 = .ok (.istore 6, 2) := by decide +kernel
theorem d_Mo_part_45 : decode prog_13_method_27_code 45 = .ok (.aload_n 0, 1) := by decide +kernel
theorem d_Mo_part_46 : decode prog_13_method_27_code 46 = .ok (.getfield 56, 3) := by decide +kernel
theorem d_Mo_part_49 : decode prog_13_method_27_code 49 = .ok (.iload 5, 2) := by decide +kernel
theorem d_Mo_part_51 : decode prog_13_method_27_code 51 = .ok (.laload, 1) := by decide +kernel
theorem d_Mo_part_52 : decode prog_13_method_27_code 52 = .ok (.lstore 7, 2) := by decide +kernel
theorem d_Mo_part_54 : decode prog_13_method_27_code 54 = .ok (.aload_n 0, 1) := by decide +kernel
theorem d_Mo_part_55 : decode prog_13_method_27_code 55 = .ok (.getfield 56, 3) := by decide +kernel
theorem d_Mo_part_58 : decode prog_13_method_27_code 58 = .ok (.iload 4, 2) := by decide +kernel
theorem d_Mo_part_60 : decode prog_13_method_27_code 60 = .ok (.laload, 1) := by decide +kernel
theorem d_Mo_part_61 : decode prog_13_method_27_code 61 = .ok (.lstore 9, 2) := by decide +kernel
theorem d_Mo_part_63 : decode prog_13_method_27_code 63 = .ok (.aload_n 0, 1) := by decide +kernel
theorem d_Mo_part_64 : decode prog_13_method_27_code 64 = .ok (.getfield 56, 3) := by decide +kernel
theorem d_Mo_part_67 : decode prog_13_method_27_code 67 = .ok (.iload 4, 2) := by decide +kernel
theorem d_Mo_part_69 : decode prog_13_method_27_code 69 = .ok (.iconst 1, 1) := by decide +kernel
theorem d_Mo_part_70 : decode prog_13_method_27_code 70 = .ok (.iadd, 1) := by decide +kernel
theorem d_Mo_part_71 : decode prog_13_method_27_code 71 = .ok (.laload, 1) := by decide +kernel
theorem d_Mo_part_72 : decode prog_13_method_27_code 72 = .ok (.aload_n 0, 1) := by decide +kernel
theorem d_Mo_part_73 : decode prog_13_method_27_code 73 = .ok (.getfield 56, 3) := by decide +kernel
theorem d_Mo_part_76 : decode prog_13_method_27_code 76 = .ok (.iload 5, 2) := by decide +kernel
theorem d_Mo_part_78 : decode prog_13_method_27_code 78 = .ok (.iconst 1, 1) := by decide +kernel
theorem d_Mo_part_79 : decode prog_13_method_27_code 79 = .ok (.iadd, 1) := by decide +kernel
theorem d_Mo_part_80 : decode prog_13_method_27_code 80 = .ok (.laload, 1) := by decide +kernel
theorem d_Mo_part_81 : decode prog_13_method_27_code 81 = .ok (.lsub, 1) := by decide +kernel
theorem d_Mo_part_82 : decode prog_13_method_27_code 82 = .ok (.lstore 11, 2) := by decide +kernel
theorem d_Mo_part_84 : decode prog_13_method_27_code 84 = .ok (.iconst 0, 1) := by decide +kernel
theorem d_Mo_part_85 : decode prog_13_method_27_code 85 = .ok (.istore 13, 2) := by decide +kernel
theorem d_Mo_part_87 : decode prog_13_method_27_code 87 = .ok (.iload 13, 2) := by decide +kernel
theorem d_Mo_part_89 : decode prog_13_method_27_code 89 = .ok (.bipush 104, 2) := by decide +kernel
theorem d_Mo_part_91 : decode prog_13_method_27_code 91 = .ok (.if_icmp .ge 36, 3) := by decide +kernel
theorem d_Mo_part_94 : decode prog_13_method_27_code 94 = .ok (.aload_n 0, 1) := by decide +kernel
theorem d_Mo_part_95 : decode prog_13_method_27_code 95 = .ok (.getfield 56, 3) := by decide +kernel
theorem d_Mo_part_98 : decode prog_13_method_27_code 98 = .ok (.bipush 104, 2) := by decide +kernel
theorem d_Mo_part_100 : decode prog_13_method_27_code 100 = .ok (.iload_n 1, 1) := by decide +kernel
theorem d_Mo_part_101 : decode prog_13_method_27_code 101 = .ok (.imul, 1) := by decide +kernel
theorem d_Mo_part_102 : decode prog_13_method_27_code 102 = .ok (.bipush 104, 2) := by decide +kernel
theorem d_Mo_part_104 : decode prog_13_method_27_code 104 = .ok (.iadd, 1) := by decide +kernel
theorem d_Mo_part_105 : decode prog_13_method_27_code 105 = .ok (.iload 13, 2) := by decide +kernel
theorem d_Mo_part_107 : decode prog_13_method_27_code 107 = .ok (.iadd, 1) := by decide +kernel
theorem d_Mo_part_108 : decode prog_13_method_27_code 108 = .ok (.aload_n 0, 1) := by decide +kernel
theorem d_Mo_part_109 : decode prog_13_method_27_code 109 = .ok (.getfield 56, 3) := by decide +kernel
theorem d_Mo_part_112 : decode prog_13_method_27_code 112 = .ok (.bipush 104, 2) := by decide +kernel
theorem d_Mo_part_114 : decode prog_13_method_27_code 114 = .ok (.iload_n 1, 1) := by decide +kernel
theorem d_Mo_part_115 : decode prog_13_method_27_code 115 = .ok (.imul, 1) := by decide +kernel
theorem d_Mo_part_116 : decode prog_13_method_27_code 116 = .ok (.iload 13, 2) := by decide +kernel
theorem d_Mo_part_118 : decode prog_13_method_27_code 118 = .ok (.iadd, 1) := by decide +kernel
theorem d_Mo_part_119 : decode prog_13_method_27_code 119 = .ok (.laload, 1) := by decide +kernel
theorem d_Mo_part_120 : decode prog_13_method_27_code 120 = .ok (.lastore, 1) := by decide +kernel
theorem d_Mo_part_121 : decode prog_13_method_27_code 121 = .ok (.iinc 13 1, 3) := by decide +kernel
theorem d_Mo_part_124 : decode prog_13_method_27_code 124 = .ok (.goto (-37), 3) := by decide +kernel
theorem d_Mo_part_127 : decode prog_13_method_27_code 127 = .ok (.aload_n 0, 1) := by decide +kernel
theorem d_Mo_part_128 : decode prog_13_method_27_code 128 = .ok (.getfield 56, 3) := by decide +kernel
theorem d_Mo_part_131 : decode prog_13_method_27_code 131 = .ok (.bipush 104, 2) := by decide +kernel
theorem d_Mo_part_133 : decode prog_13_method_27_code 133 = .ok (.iload_n 1, 1) := by decide +kernel
theorem d_Mo_part_134 : decode prog_13_method_27_code 134 = .ok (.imul, 1) := by decide +kernel
theorem d_Mo_part_135 : decode prog_13_method_27_code 135 = .ok (.iload_n 3, 1) := by decide +kernel
theorem d_Mo_part_136 : decode prog_13_method_27_code 136 = .ok (.i2l, 1) := by decide +kernel
theorem d_Mo_part_137 : decode prog_13_method_27_code 137 = .ok (.lastore, 1) := by decide +kernel
theorem d_Mo_part_138 : decode prog_13_method_27_code 138 = .ok (.aload_n 0, 1) := by decide +kernel
theorem d_Mo_part_139 : decode prog_13_method_27_code 139 = .ok (.iload_n 1, 1) := by decide +kernel
theorem d_Mo_part_140 : decode prog_13_method_27_code 140 = .ok (.putfield 149, 3) := by decide +kernel
theorem d_Mo_part_143 : decode prog_13_method_27_code 143 = .ok (.iload 6, 2) := by decide +kernel
theorem d_Mo_part_145 : decode prog_13_method_27_code 145 = .ok (.ifCond .eq 15, 3) := by decide +kernel
theorem d_Mo_part_148 : decode prog_13_method_27_code 148 = .ok (.aload_n 0, 1) := by decide +kernel
theorem d_Mo_part_149 : decode prog_13_method_27_code 149 = .ok (.iload_n 1, 1) := by decide +kernel
theorem d_Mo_part_150 : decode prog_13_method_27_code 150 = .ok (.iload_n 2, 1) := by decide +kernel
theorem d_Mo_part_151 : decode prog_13_method_27_code 151 = .ok (.lload 7, 2) := by decide +kernel
theorem d_Mo_part_153 : decode prog_13_method_27_code 153 = .ok (.lload 9, 2) := by decide +kernel
theorem d_Mo_part_155 : decode prog_13_method_27_code 155 = .ok (.lload 11, 2) := by decide +kernel
theorem d_Mo_part_157 : decode prog_13_method_27_code 157 = .ok (.invokevirtual 196, 3) := by decide +kernel
theorem d_Mo_part_160 : decode prog_13_method_27_code 160 = .ok (.iload 6, 2) := by decide +kernel
theorem d_Mo_part_162 : decode prog_13_method_27_code 162 = .ok (.ifCond .eq 25, 3) := by decide +kernel
theorem d_Mo_part_165 : decode prog_13_method_27_code 165 = .ok (.aload_n 0, 1) := by decide +kernel
theorem d_Mo_part_166 : decode prog_13_method_27_code 166 = .ok (.iload_n 1, 1) := by decide +kernel
theorem d_Mo_part_167 : decode prog_13_method_27_code 167 = .ok (.iconst 1, 1) := by decide +kernel
theorem d_Mo_part_168 : decode prog_13_method_27_code 168 = .ok (.iadd, 1) := by decide +kernel
theorem d_Mo_part_169 : decode prog_13_method_27_code 169 = .ok (.iload_n 2, 1) := by decide +kernel
theorem d_Mo_part_170 : decode prog_13_method_27_code 170 = .ok (.ifCond .ne 7, 3) := by decide +kernel
theorem d_Mo_part_173 : decode prog_13_method_27_code 173 = .ok (.iconst 1, 1) := by decide +kernel
theorem d_Mo_part_174 : decode prog_13_method_27_code 174 = .ok (.goto 4, 3) := by decide +kernel
theorem d_Mo_part_177 : decode prog_13_method_27_code 177 = .ok (.iconst 0, 1) := by decide +kernel
theorem d_Mo_part_178 : decode prog_13_method_27_code 178 = .ok (.lload 7, 2) := by decide +kernel
theorem d_Mo_part_180 : decode prog_13_method_27_code 180 = .ok (.lload 9, 2) := by decide +kernel
theorem d_Mo_part_182 : decode prog_13_method_27_code 182 = .ok (.lload 11, 2) := by decide +kernel
theorem d_Mo_part_184 : decode prog_13_method_27_code 184 = .ok (.invokevirtual 196, 3) := by decide +kernel
theorem d_Mo_part_187 : decode prog_13_method_27_code 187 = .ok (.aload_n 0, 1) := by decide +kernel
theorem d_Mo_part_188 : decode prog_13_method_27_code 188 = .ok (.iload_n 1, 1) := by decide +kernel
theorem d_Mo_part_189 : decode prog_13_method_27_code 189 = .ok (.invokevirtual 142, 3) := by decide +kernel
theorem d_Mo_part_192 : decode prog_13_method_27_code 192 = .ok (.istore 13, 2) := by decide +kernel
theorem d_Mo_part_194 : decode prog_13_method_27_code 194 = .ok (.aload_n 0, 1) := by decide +kernel
theorem d_Mo_part_195 : decode prog_13_method_27_code 195 = .ok (.iload_n 1, 1) := by decide +kernel
theorem d_Mo_part_196 : decode prog_13_method_27_code 196 = .ok (.iconst 1, 1) := by decide +kernel
theorem d_Mo_part_197 : decode prog_13_method_27_code 197 = .ok (.iadd, 1) := by decide +kernel
theorem d_Mo_part_198 : decode prog_13_method_27_code 198 = .ok (.invokevirtual 142, 3) := by decide +kernel
theorem d_Mo_part_201 : decode prog_13_method_27_code 201 = .ok (.istore 14, 2) := by decide +kernel
theorem d_Mo_part_203 : decode prog_13_method_27_code 203 = .ok (.iload 13, 2) := by decide +kernel
theorem d_Mo_part_205 : decode prog_13_method_27_code 205 = .ok (.ifCond .ne 46, 3) := by decide +kernel
theorem d_Mo_part_208 : decode prog_13_method_27_code 208 = .ok (.iconst 0, 1) := by decide +kernel
theorem d_Mo_part_209 : decode prog_13_method_27_code 209 = .ok (.istore 15, 2) := by decide +kernel
theorem d_Mo_part_211 : decode prog_13_method_27_code 211 = .ok (.iload 15, 2) := by decide +kernel
theorem d_Mo_part_213 : decode prog_13_method_27_code 213 = .ok (.bipush 104, 2) := by decide +kernel
theorem d_Mo_part_215 : decode prog_13_method_27_code 215 = .ok (.if_icmp .ge 36, 3) := by decide +kernel
theorem d_Mo_part_218 : decode prog_13_method_27_code 218 = .ok (.aload_n 0, 1) := by decide +kernel
theorem d_Mo_part_219 : decode prog_13_method_27_code 219 = .ok (.getfield 56, 3) := by decide +kernel
theorem d_Mo_part_222 : decode prog_13_method_27_code 222 = .ok (.bipush 104, 2) := by decide +kernel
theorem d_Mo_part_224 : decode prog_13_method_27_code 224 = .ok (.iload_n 1, 1) := by decide +kernel
theorem d_Mo_part_225 : decode prog_13_method_27_code 225 = .ok (.imul, 1) := by decide +kernel
theorem d_Mo_part_226 : decode prog_13_method_27_code 226 = .ok (.iload 15, 2) := by decide +kernel
theorem d_Mo_part_228 : decode prog_13_method_27_code 228 = .ok (.iadd, 1) := by decide +kernel
theorem d_Mo_part_229 : decode prog_13_method_27_code 229 = .ok (.aload_n 0, 1) := by decide +kernel
theorem d_Mo_part_230 : decode prog_13_method_27_code 230 = .ok (.getfield 56, 3) := by decide +kernel
theorem d_Mo_part_233 : decode prog_13_method_27_code 233 = .ok (.bipush 104, 2) := by decide +kernel
theorem d_Mo_part_235 : decode prog_13_method_27_code 235 = .ok (.iload_n 1, 1) := by decide +kernel
theorem d_Mo_part_236 : decode prog_13_method_27_code 236 = .ok (.imul, 1) := by decide +kernel
theorem d_Mo_part_237 : decode prog_13_method_27_code 237 = .ok (.bipush 104, 2) := by decide +kernel
theorem d_Mo_part_239 : decode prog_13_method_27_code 239 = .ok (.iadd, 1) := by decide +kernel
theorem d_Mo_part_240 : decode prog_13_method_27_code 240 = .ok (.iload 15, 2) := by decide +kernel
theorem d_Mo_part_242 : decode prog_13_method_27_code 242 = .ok (.iadd, 1) := by decide +kernel
theorem d_Mo_part_243 : decode prog_13_method_27_code 243 = .ok (.laload, 1) := by decide +kernel
theorem d_Mo_part_244 : decode prog_13_method_27_code 244 = .ok (.lastore, 1) := by decide +kernel
theorem d_Mo_part_245 : decode prog_13_method_27_code 245 = .ok (.iinc 15 1, 3) := by decide +kernel
theorem d_Mo_part_248 : decode prog_13_method_27_code 248 = .ok (.goto (-37), 3) := by decide +kernel
theorem d_Mo_part_251 : decode prog_13_method_27_code 251 = .ok (.aload_n 0, 1) := by decide +kernel
theorem d_Mo_part_252 : decode prog_13_method_27_code 252 = .ok (.iload_n 1, 1) := by decide +kernel
theorem d_Mo_part_253 : decode prog_13_method_27_code 253 = .ok (.iload 13, 2) := by decide +kernel
theorem d_Mo_part_255 : decode prog_13_method_27_code 255 = .ok (.ifCond .eq 7, 3) := by decide +kernel
theorem d_Mo_part_258 : decode prog_13_method_27_code 258 = .ok (.iconst 1, 1) := by decide +kernel
theorem d_Mo_part_259 : decode prog_13_method_27_code 259 = .ok (.goto 4, 3) := by decide +kernel
theorem d_Mo_part_262 : decode prog_13_method_27_code 262 = .ok (.iconst 0, 1) := by decide +kernel
theorem d_Mo_part_263 : decode prog_13_method_27_code 263 = .ok (.iadd, 1) := by decide +kernel
theorem d_Mo_part_264 : decode prog_13_method_27_code 264 = .ok (.iload 14, 2) := by decide +kernel
theorem d_Mo_part_266 : decode prog_13_method_27_code 266 = .ok (.ifCond .eq 7, 3) := by decide +kernel
theorem d_Mo_part_269 : decode prog_13_method_27_code 269 = .ok (.iconst 1, 1) := by decide +kernel
theorem d_Mo_part_270 : decode prog_13_method_27_code 270 = .ok (.goto 4, 3) := by decide +kernel
theorem d_Mo_part_273 : decode prog_13_method_27_code 273 = .ok (.iconst 0, 1) := by decide +kernel
theorem d_Mo_part_274 : decode prog_13_method_27_code 274 = .ok (.iadd, 1) := by decide +kernel
theorem d_Mo_part_275 : decode prog_13_method_27_code 275 = .ok (.putfield 149, 3) := by decide +kernel
theorem d_Mo_part_278 : decode prog_13_method_27_code 278 = .ok (.iconst 0, 1) := by decide +kernel
theorem d_Mo_part_279 : decode prog_13_method_27_code 279 = .ok (.ireturn, 1) := by decide +kernel
theorem d_Mo_pop_0 : decode prog_13_method_24_code 0 = .ok (.bipush 104, 2) := by decide +kernel
theorem d_Mo_pop_2 : decode prog_13_method_24_code 2 = .ok (.iload_n 1, 1) := by decide +kernel
theorem d_Mo_pop_3 : decode prog_13_method_24_code 3 = .ok (.imul, 1) := by decide +kernel
theorem d_Mo_pop_4 : decode prog_13_method_24_code 4 = .ok (.istore_n 2, 1) := by decide +kernel
theorem d_Mo_pop_5 : decode prog_13_method_24_code 5 = .ok (.aload_n 0, 1) := by decide +kernel
theorem d_Mo_pop_6 : decode prog_13_method_24_code 6 = .ok (.getfield 56, 3) := by decide +kernel
theorem d_Mo_pop_9 : decode prog_13_method_24_code 9 = .ok (.iload_n 2, 1) := by decide +kernel
theorem d_Mo_pop_10 : decode prog_13_method_24_code 10 = .ok (.iconst 2, 1) := by decide +kernel
theorem d_Mo_pop_11 : decode prog_13_method_24_code 11 = .ok (.iadd, 1) := by decide +kernel
theorem d_Mo_pop_12 : decode prog_13_method_24_code 12 = .ok (.dup2, 1) := by decide +kernel
theorem d_Mo_pop_13 : decode prog_13_method_24_code 13 = .ok (.laload, 1) := by decide +kernel
theorem d_Mo_pop_14 : decode prog_13_method_24_code 14 = .ok (.lconst 1, 1) := by decide +kernel
theorem d_Mo_pop_15 : decode prog_13_method_24_code 15 = .ok (.lsub, 1) := by decide +kernel
theorem d_Mo_pop_16 : decode prog_13_method_24_code 16 = .ok (.lastore, 1) := by decide +kernel
theorem d_Mo_pop_17 : decode prog_13_method_24_code 17 = .ok (.iload_n 2, 1) := by decide +kernel
theorem d_Mo_pop_18 : decode prog_13_method_24_code 18 = .ok (.bipush 12, 2) := by decide +kernel
theorem d_Mo_pop_20 : decode prog_13_method_24_code 20 = .ok (.iadd, 1) := by decide +kernel
theorem d_Mo_pop_21 : decode prog_13_method_24_code 21 = .ok (.iconst 2, 1) := by decide +kernel
theorem d_Mo_pop_22 : decode prog_13_method_24_code 22 = .ok (.aload_n 0, 1) := by decide +kernel
theorem d_Mo_pop_23 : decode prog_13_method_24_code 23 = .ok (.getfield 56, 3) := by decide +kernel
theorem d_Mo_pop_26 : decode prog_13_method_24_code 26 = .ok (.iload_n 2, 1) := by decide +kernel
theorem d_Mo_pop_27 : decode prog_13_method_24_code 27 = .ok (.iconst 2, 1) := by decide +kernel
theorem d_Mo_pop_28 : decode prog_13_method_24_code 28 = .ok (.iadd, 1) := by decide +kernel
theorem d_Mo_pop_29 : decode prog_13_method_24_code 29 = .ok (.laload, 1) := by decide +kernel
theorem d_Mo_pop_30 : decode prog_13_method_24_code 30 = .ok (.l2i, 1) := by decide +kernel
theorem d_Mo_pop_31 : decode prog_13_method_24_code 31 = .ok (.imul, 1) := by decide +kernel
theorem d_Mo_pop_32 : decode prog_13_method_24_code 32 = .ok (.iadd, 1) := by decide +kernel
theorem d_Mo_pop_33 : decode prog_13_method_24_code 33 = .ok (.ireturn, 1) := by decide +kernel
theorem d_Mo_learn_0 : decode prog_13_method_28_code 0 = .ok (.iload_n 2, 1) := by decide +kernel
theorem d_Mo_learn_1 : decode prog_13_method_28_code 1 = .ok (.ifCond .eq 18, 3) := by decide +kernel
theorem d_Mo_learn_4 : decode prog_13_method_28_code 4 = .ok (.aload_n 0, 1) := by decide +kernel
theorem d_Mo_learn_5 : decode prog_13_method_28_code 5 = .ok (.iload_n 1, 1) := by decide +kernel
theorem d_Mo_learn_6 : decode prog_13_method_28_code 6 = .ok (.lload_n 3, 1) := by decide +kernel
theorem d_Mo_learn_7 : decode prog_13_method_28_code 7 = .ok (.lload 5, 2) := by decide +kernel
theorem d_Mo_learn_9 : decode prog_13_method_28_code 9 = .ok (.lload 7, 2) := by decide +kernel
theorem d_Mo_learn_11 : decode prog_13_method_28_code 11 = .ok (.lconst 1, 1) := by decide +kernel
theorem d_Mo_learn_12 : decode prog_13_method_28_code 12 = .ok (.lsub, 1) := by decide +kernel
theorem d_Mo_learn_13 : decode prog_13_method_28_code 13 = .ok (.invokevirtual 131, 3) := by decide +kernel
theorem d_Mo_learn_16 : decode prog_13_method_28_code 16 = .ok (.goto 14, 3) := by decide +kernel
theorem d_Mo_learn_19 : decode prog_13_method_28_code 19 = .ok (.aload_n 0, 1) := by decide +kernel
theorem d_Mo_learn_20 : decode prog_13_method_28_code 20 = .ok (.iload_n 1, 1) := by decide +kernel
theorem d_Mo_learn_21 : decode prog_13_method_28_code 21 = .ok (.lload 5, 2) := by decide +kernel
theorem d_Mo_learn_23 : decode prog_13_method_28_code 23 = .ok (.lload_n 3, 1) := by decide +kernel
theorem d_Mo_learn_24 : decode prog_13_method_28_code 24 = .ok (.lload 7, 2) := by decide +kernel
theorem d_Mo_learn_26 : decode prog_13_method_28_code 26 = .ok (.lneg, 1) := by decide +kernel
theorem d_Mo_learn_27 : decode prog_13_method_28_code 27 = .ok (.invokevirtual 131, 3) := by decide +kernel
theorem d_Mo_learn_30 : decode prog_13_method_28_code 30 = .ok (.return_, 1) := by decide +kernel
theorem d_Mo_memory_0 : decode prog_13_method_29_code 0 = .ok (.aload_n 0, 1) := by decide +kernel
theorem d_Mo_memory_1 : decode prog_13_method_29_code 1 = .ok (.iload_n 1, 1) := by decide +kernel
theorem d_Mo_memory_2 : decode prog_13_method_29_code 2 = .ok (.invokevirtual 189, 3) := by decide +kernel
theorem d_Mo_memory_5 : decode prog_13_method_29_code 5 = .ok (.istore_n 2, 1) := by decide +kernel
theorem d_Mo_memory_6 : decode prog_13_method_29_code 6 = .ok (.aload_n 0, 1) := by decide +kernel
theorem d_Mo_memory_7 : decode prog_13_method_29_code 7 = .ok (.getfield 56, 3) := by decide +kernel
theorem d_Mo_memory_10 : decode prog_13_method_29_code 10 = .ok (.iload_n 2, 1) := by decide +kernel
theorem d_Mo_memory_11 : decode prog_13_method_29_code 11 = .ok (.laload, 1) := by decide +kernel
theorem d_Mo_memory_12 : decode prog_13_method_29_code 12 = .ok (.lconst 0, 1) := by decide +kernel
theorem d_Mo_memory_13 : decode prog_13_method_29_code 13 = .ok (.lcmp, 1) := by decide +kernel
theorem d_Mo_memory_14 : decode prog_13_method_29_code 14 = .ok (.ifCond .ge 5, 3) := by decide +kernel
theorem d_Mo_memory_17 : decode prog_13_method_29_code 17 = .ok (.iconst 5, 1) := by decide +kernel
theorem d_Mo_memory_18 : decode prog_13_method_29_code 18 = .ok (.ireturn, 1) := by decide +kernel
theorem d_Mo_memory_19 : decode prog_13_method_29_code 19 = .ok (.aload_n 0, 1) := by decide +kernel
theorem d_Mo_memory_20 : decode prog_13_method_29_code 20 = .ok (.iload_n 1, 1) := by decide +kernel
theorem d_Mo_memory_21 : decode prog_13_method_29_code 21 = .ok (.invokevirtual 142, 3) := by decide +kernel
theorem d_Mo_memory_24 : decode prog_13_method_29_code 24 = .ok (.pop, 1) := by decide +kernel
theorem d_Mo_memory_25 : decode prog_13_method_29_code 25 = .ok (.aload_n 0, 1) := by decide +kernel
theorem d_Mo_memory_26 : decode prog_13_method_29_code 26 = .ok (.ldc2_w 110, 3) := by decide +kernel
theorem d_Mo_memory_29 : decode prog_13_method_29_code 29 = .ok (.lconst 0, 1) := by decide +kernel
theorem d_Mo_memory_30 : decode prog_13_method_29_code 30 = .ok (.aload_n 0, 1) := by decide +kernel
theorem d_Mo_memory_31 : decode prog_13_method_29_code 31 = .ok (.getfield 56, 3) := by decide +kernel
theorem d_Mo_memory_34 : decode prog_13_method_29_code 34 = .ok (.iload_n 2, 1) := by decide +kernel
theorem d_Mo_memory_35 : decode prog_13_method_29_code 35 = .ok (.laload, 1) := by decide +kernel
theorem d_Mo_memory_36 : decode prog_13_method_29_code 36 = .ok (.aload_n 0, 1) := by decide +kernel
theorem d_Mo_memory_37 : decode prog_13_method_29_code 37 = .ok (.getfield 56, 3) := by decide +kernel
theorem d_Mo_memory_40 : decode prog_13_method_29_code 40 = .ok (.iload_n 2, 1) := by decide +kernel
theorem d_Mo_memory_41 : decode prog_13_method_29_code 41 = .ok (.iconst 1, 1) := by decide +kernel
theorem d_Mo_memory_42 : decode prog_13_method_29_code 42 = .ok (.iadd, 1) := by decide +kernel
theorem d_Mo_memory_43 : decode prog_13_method_29_code 43 = .ok (.laload, 1) := by decide +kernel
theorem d_Mo_memory_44 : decode prog_13_method_29_code 44 = .ok (.lconst 0, 1) := by decide +kernel
theorem d_Mo_memory_45 : decode prog_13_method_29_code 45 = .ok (.invokevirtual 200, 3) := by decide +kernel
theorem d_Mo_memory_48 : decode prog_13_method_29_code 48 = .ok (.ifCond .ne 5, 3) := by decide +kernel
theorem d_Mo_memory_51 : decode prog_13_method_29_code 51 = .ok (.iconst 5, 1) := by decide +kernel
theorem d_Mo_memory_52 : decode prog_13_method_29_code 52 = .ok (.ireturn, 1) := by decide +kernel
theorem d_Mo_memory_53 : decode prog_13_method_29_code 53 = .ok (.aload_n 0, 1) := by decide +kernel
theorem d_Mo_memory_54 : decode prog_13_method_29_code 54 = .ok (.iload_n 1, 1) := by decide +kernel
theorem d_Mo_memory_55 : decode prog_13_method_29_code 55 = .ok (.bipush 74, 2) := by decide +kernel
theorem d_Mo_memory_57 : decode prog_13_method_29_code 57 = .ok (.ldc2_w 187, 3) := by decide +kernel
theorem d_Mo_memory_60 : decode prog_13_method_29_code 60 = .ok (.aload_n 0, 1) := by decide +kernel
theorem d_Mo_memory_61 : decode prog_13_method_29_code 61 = .ok (.getfield 56, 3) := by decide +kernel
theorem d_Mo_memory_64 : decode prog_13_method_29_code 64 = .ok (.iload_n 2, 1) := by decide +kernel
theorem d_Mo_memory_65 : decode prog_13_method_29_code 65 = .ok (.laload, 1) := by decide +kernel
theorem d_Mo_memory_66 : decode prog_13_method_29_code 66 = .ok (.aload_n 0, 1) := by decide +kernel
theorem d_Mo_memory_67 : decode prog_13_method_29_code 67 = .ok (.getfield 56, 3) := by decide +kernel
theorem d_Mo_memory_70 : decode prog_13_method_29_code 70 = .ok (.iload_n 2, 1) := by decide +kernel
theorem d_Mo_memory_71 : decode prog_13_method_29_code 71 = .ok (.iconst 1, 1) := by decide +kernel
theorem d_Mo_memory_72 : decode prog_13_method_29_code 72 = .ok (.iadd, 1) := by decide +kernel
theorem d_Mo_memory_73 : decode prog_13_method_29_code 73 = .ok (.laload, 1) := by decide +kernel
theorem d_Mo_memory_74 : decode prog_13_method_29_code 74 = .ok (.ldc2_w 110, 3) := by decide +kernel
theorem d_Mo_memory_77 : decode prog_13_method_29_code 77 = .ok (.lconst 0, 1) := by decide +kernel
theorem d_Mo_memory_78 : decode prog_13_method_29_code 78 = .ok (.invokevirtual 135, 3) := by decide +kernel
theorem d_Mo_memory_81 : decode prog_13_method_29_code 81 = .ok (.aload_n 0, 1) := by decide +kernel
theorem d_Mo_memory_82 : decode prog_13_method_29_code 82 = .ok (.getfield 56, 3) := by decide +kernel
theorem d_Mo_memory_85 : decode prog_13_method_29_code 85 = .ok (.bipush 104, 2) := by decide +kernel
theorem d_Mo_memory_87 : decode prog_13_method_29_code 87 = .ok (.iload_n 1, 1) := by decide +kernel
theorem d_Mo_memory_88 : decode prog_13_method_29_code 88 = .ok (.imul, 1) := by decide +kernel
theorem d_Mo_memory_89 : decode prog_13_method_29_code 89 = .ok (.bipush 100, 2) := by decide +kernel
theorem d_Mo_memory_91 : decode prog_13_method_29_code 91 = .ok (.iadd, 1) := by decide +kernel
theorem d_Mo_memory_92 : decode prog_13_method_29_code 92 = .ok (.dup2, 1) := by decide +kernel
theorem d_Mo_memory_93 : decode prog_13_method_29_code 93 = .ok (.laload, 1) := by decide +kernel
theorem d_Mo_memory_94 : decode prog_13_method_29_code 94 = .ok (.ldc2_w 164, 3) := by decide +kernel
theorem d_Mo_memory_97 : decode prog_13_method_29_code 97 = .ok (.lsub, 1) := by decide +kernel
theorem d_Mo_memory_98 : decode prog_13_method_29_code 98 = .ok (.lastore, 1) := by decide +kernel
theorem d_Mo_memory_99 : decode prog_13_method_29_code 99 = .ok (.iconst 0, 1) := by decide +kernel
theorem d_Mo_memory_100 : decode prog_13_method_29_code 100 = .ok (.ireturn, 1) := by decide +kernel
theorem d_Mo_called_0 : decode prog_13_method_32_code 0 = .ok (.aload_n 0, 1) := by decide +kernel
theorem d_Mo_called_1 : decode prog_13_method_32_code 1 = .ok (.iload_n 1, 1) := by decide +kernel
theorem d_Mo_called_2 : decode prog_13_method_32_code 2 = .ok (.invokevirtual 189, 3) := by decide +kernel
theorem d_Mo_called_5 : decode prog_13_method_32_code 5 = .ok (.pop, 1) := by decide +kernel
theorem d_Mo_called_6 : decode prog_13_method_32_code 6 = .ok (.aload_n 0, 1) := by decide +kernel
theorem d_Mo_called_7 : decode prog_13_method_32_code 7 = .ok (.iload_n 1, 1) := by decide +kernel
theorem d_Mo_called_8 : decode prog_13_method_32_code 8 = .ok (.invokevirtual 189, 3) := by decide +kernel
theorem d_Mo_called_11 : decode prog_13_method_32_code 11 = .ok (.pop, 1) := by decide +kernel
theorem d_Mo_called_12 : decode prog_13_method_32_code 12 = .ok (.aload_n 0, 1) := by decide +kernel
theorem d_Mo_called_13 : decode prog_13_method_32_code 13 = .ok (.iload_n 1, 1) := by decide +kernel
theorem d_Mo_called_14 : decode prog_13_method_32_code 14 = .ok (.invokevirtual 189, 3) := by decide +kernel
theorem d_Mo_called_17 : decode prog_13_method_32_code 17 = .ok (.istore_n 3, 1) := by decide +kernel
theorem d_Mo_called_18 : decode prog_13_method_32_code 18 = .ok (.aload_n 0, 1) := by decide +kernel
theorem d_Mo_called_19 : decode prog_13_method_32_code 19 = .ok (.getfield 19, 3) := by decide +kernel
theorem d_Mo_called_22 : decode prog_13_method_32_code 22 = .ok (.iload_n 2, 1) := by decide +kernel
theorem d_Mo_called_23 : decode prog_13_method_32_code 23 = .ok (.baload, 1) := by decide +kernel
theorem d_Mo_called_24 : decode prog_13_method_32_code 24 = .ok (.ifCond .ne 6, 3) := by decide +kernel
theorem d_Mo_called_27 : decode prog_13_method_32_code 27 = .ok (.bipush 6, 2) := by decide +kernel
theorem d_Mo_called_29 : decode prog_13_method_32_code 29 = .ok (.ireturn, 1) := by decide +kernel
theorem d_Mo_called_30 : decode prog_13_method_32_code 30 = .ok (.aload_n 0, 1) := by decide +kernel
theorem d_Mo_called_31 : decode prog_13_method_32_code 31 = .ok (.iload_n 1, 1) := by decide +kernel
theorem d_Mo_called_32 : decode prog_13_method_32_code 32 = .ok (.invokevirtual 142, 3) := by decide +kernel
theorem d_Mo_called_35 : decode prog_13_method_32_code 35 = .ok (.pop, 1) := by decide +kernel
theorem d_Mo_called_36 : decode prog_13_method_32_code 36 = .ok (.aload_n 0, 1) := by decide +kernel
theorem d_Mo_called_37 : decode prog_13_method_32_code 37 = .ok (.iload_n 2, 1) := by decide +kernel
theorem d_Mo_called_38 : decode prog_13_method_32_code 38 = .ok (.iconst 0, 1) := by decide +kernel
theorem d_Mo_called_39 : decode prog_13_method_32_code 39 = .ok (.invokevirtual 106, 3) := by decide +kernel
theorem d_Mo_called_42 : decode prog_13_method_32_code 42 = .ok (.istore 4, 2) := by decide +kernel
theorem d_Mo_called_44 : decode prog_13_method_32_code 44 = .ok (.bipush 6, 2) := by decide +kernel
theorem d_Mo_called_46 : decode prog_13_method_32_code 46 = .ok (.iload 4, 2) := by decide +kernel
theorem d_Mo_called_48 : decode prog_13_method_32_code 48 = .ok (.imul, 1) := by decide +kernel
theorem d_Mo_called_49 : decode prog_13_method_32_code 49 = .ok (.istore 5, 2) := by decide +kernel
theorem d_Mo_called_51 : decode prog_13_method_32_code 51 = .ok (.iload 5, 2) := by decide +kernel
theorem d_Mo_called_53 : decode prog_13_method_32_code 53 = .ok (.bipush 6, 2) := by decide +kernel
theorem d_Mo_called_55 : decode prog_13_method_32_code 55 = .ok (.iload 4, 2) := by decide +kernel
theorem d_Mo_called_57 : decode prog_13_method_32_code 57 = .ok (.imul, 1) := by decide +kernel
theorem d_Mo_called_58 : decode prog_13_method_32_code 58 = .ok (.aload_n 0, 1) := by decide +kernel
theorem d_Mo_called_59 : decode prog_13_method_32_code 59 = .ok (.getfield 29, 3) := by decide +kernel
theorem d_Mo_called_62 : decode prog_13_method_32_code 62 = .ok (.iload 4, 2) := by decide +kernel
theorem d_Mo_called_64 : decode prog_13_method_32_code 64 = .ok (.iaload, 1) := by decide +kernel
theorem d_Mo_called_65 : decode prog_13_method_32_code 65 = .ok (.iadd, 1) := by decide +kernel
theorem d_Mo_called_66 : decode prog_13_method_32_code 66 = .ok (.if_icmp .ge 101, 3) := by decide +kernel
theorem d_Mo_called_69 : decode prog_13_method_32_code 69 = .ok (.aload_n 0, 1) := by decide +kernel
theorem d_Mo_called_70 : decode prog_13_method_32_code 70 = .ok (.iload_n 1, 1) := by decide +kernel
theorem d_Mo_called_71 : decode prog_13_method_32_code 71 = .ok (.iload_n 3, 1) := by decide +kernel
theorem d_Mo_called_72 : decode prog_13_method_32_code 72 = .ok (.aload_n 0, 1) := by decide +kernel
theorem d_Mo_called_73 : decode prog_13_method_32_code 73 = .ok (.getfield 32, 3) := by decide +kernel
theorem d_Mo_called_76 : decode prog_13_method_32_code 76 = .ok (.iload 5, 2) := by decide +kernel
theorem d_Mo_called_78 : decode prog_13_method_32_code 78 = .ok (.iaload, 1) := by decide +kernel
theorem d_Mo_called_79 : decode prog_13_method_32_code 79 = .ok (.invokevirtual 204, 3) := by decide +kernel
theorem d_Mo_called_82 : decode prog_13_method_32_code 82 = .ok (.lstore 6, 2) := by decide +kernel
theorem d_Mo_called_84 : decode prog_13_method_32_code 84 = .ok (.aload_n 0, 1) := by decide +kernel
theorem d_Mo_called_85 : decode prog_13_method_32_code 85 = .ok (.iload_n 1, 1) := by decide +kernel
theorem d_Mo_called_86 : decode prog_13_method_32_code 86 = .ok (.iload_n 3, 1) := by decide +kernel
theorem d_Mo_called_87 : decode prog_13_method_32_code 87 = .ok (.aload_n 0, 1) := by decide +kernel
theorem d_Mo_called_88 : decode prog_13_method_32_code 88 = .ok (.getfield 35, 3) := by decide +kernel
theorem d_Mo_called_91 : decode prog_13_method_32_code 91 = .ok (.iload 5, 2) := by decide +kernel
theorem d_Mo_called_93 : decode prog_13_method_32_code 93 = .ok (.iaload, 1) := by decide +kernel
theorem d_Mo_called_94 : decode prog_13_method_32_code 94 = .ok (.invokevirtual 204, 3) := by decide +kernel
theorem d_Mo_called_97 : decode prog_13_method_32_code 97 = .ok (.lstore 8, 2) := by decide +kernel
theorem d_Mo_called_99 : decode prog_13_method_32_code 99 = .ok (.lload 6, 2) := by decide +kernel
theorem d_Mo_called_101 : decode prog_13_method_32_code 101 = .ok (.lconst 0, 1) := by decide +kernel
theorem d_Mo_called_102 : decode prog_13_method_32_code 102 = .ok (.lcmp, 1) := by decide +kernel
theorem d_Mo_called_103 : decode prog_13_method_32_code 103 = .ok (.ifCond .lt 55, 3) := by decide +kernel
theorem d_Mo_called_106 : decode prog_13_method_32_code 106 = .ok (.lload 8, 2) := by decide +kernel
theorem d_Mo_called_108 : decode prog_13_method_32_code 108 = .ok (.lconst 0, 1) := by decide +kernel
theorem d_Mo_called_109 : decode prog_13_method_32_code 109 = .ok (.lcmp, 1) := by decide +kernel
theorem d_Mo_called_110 : decode prog_13_method_32_code 110 = .ok (.ifCond .lt 48, 3) := by decide +kernel
theorem d_Mo_called_113 : decode prog_13_method_32_code 113 = .ok (.aload_n 0, 1) := by decide +kernel
theorem d_Mo_called_114 : decode prog_13_method_32_code 114 = .ok (.lload 6, 2) := by decide +kernel
theorem d_Mo_called_116 : decode prog_13_method_32_code 116 = .ok (.aload_n 0, 1) := by decide +kernel
theorem d_Mo_called_117 : decode prog_13_method_32_code 117 = .ok (.iload_n 1, 1) := by decide +kernel
theorem d_Mo_called_118 : decode prog_13_method_32_code 118 = .ok (.iload_n 3, 1) := by decide +kernel
theorem d_Mo_called_119 : decode prog_13_method_32_code 119 = .ok (.aload_n 0, 1) := by decide +kernel
theorem d_Mo_called_120 : decode prog_13_method_32_code 120 = .ok (.getfield 32, 3) := by decide +kernel
theorem d_Mo_called_123 : decode prog_13_method_32_code 123 = .ok (.iload 5, 2) := by decide +kernel
theorem d_Mo_called_125 : decode prog_13_method_32_code 125 = .ok (.iaload, 1) := by decide +kernel
theorem d_Mo_called_126 : decode prog_13_method_32_code 126 = .ok (.invokevirtual 208, 3) := by decide +kernel
theorem d_Mo_called_129 : decode prog_13_method_32_code 129 = .ok (.lload 8, 2) := by decide +kernel
theorem d_Mo_called_131 : decode prog_13_method_32_code 131 = .ok (.aload_n 0, 1) := by decide +kernel
theorem d_Mo_called_132 : decode prog_13_method_32_code 132 = .ok (.iload_n 1, 1) := by decide +kernel
theorem d_Mo_called_133 : decode prog_13_method_32_code 133 = .ok (.iload_n 3, 1) := by decide +kernel
theorem d_Mo_called_134 : decode prog_13_method_32_code 134 = .ok (.aload_n 0, 1) := by decide +kernel
theorem d_Mo_called_135 : decode prog_13_method_32_code 135 = .ok (.getfield 35, 3) := by decide +kernel
theorem d_Mo_called_138 : decode prog_13_method_32_code 138 = .ok (.iload 5, 2) := by decide +kernel
theorem d_Mo_called_140 : decode prog_13_method_32_code 140 = .ok (.iaload, 1) := by decide +kernel
theorem d_Mo_called_141 : decode prog_13_method_32_code 141 = .ok (.invokevirtual 208, 3) := by decide +kernel
theorem d_Mo_called_144 : decode prog_13_method_32_code 144 = .ok (.aload_n 0, 1) := by decide +kernel
theorem d_Mo_called_145 : decode prog_13_method_32_code 145 = .ok (.getfield 38, 3) := by decide +kernel
theorem d_Mo_called_148 : decode prog_13_method_32_code 148 = .ok (.iload 5, 2) := by decide +kernel
theorem d_Mo_called_150 : decode prog_13_method_32_code 150 = .ok (.iaload, 1) := by decide +kernel
theorem d_Mo_called_151 : decode prog_13_method_32_code 151 = .ok (.i2l, 1) := by decide +kernel
theorem d_Mo_called_152 : decode prog_13_method_32_code 152 = .ok (.invokevirtual 200, 3) := by decide +kernel
theorem d_Mo_called_155 : decode prog_13_method_32_code 155 = .ok (.ifCond .ne 6, 3) := by decide +kernel
theorem d_Mo_called_158 : decode prog_13_method_32_code 158 = .ok (.bipush 6, 2) := by decide +kernel
theorem d_Mo_called_160 : decode prog_13_method_32_code 160 = .ok (.ireturn, 1) := by decide +kernel
theorem d_Mo_called_161 : decode prog_13_method_32_code 161 = .ok (.iinc 5 1, 3) := by decide +kernel
theorem d_Mo_called_164 : decode prog_13_method_32_code 164 = .ok (.goto (-113), 3) := by decide +kernel
theorem d_Mo_called_167 : decode prog_13_method_32_code 167 = .ok (.iconst 0, 1) := by decide +kernel
theorem d_Mo_called_168 : decode prog_13_method_32_code 168 = .ok (.istore 5, 2) := by decide +kernel
theorem d_Mo_called_170 : decode prog_13_method_32_code 170 = .ok (.iload 5, 2) := by decide +kernel
theorem d_Mo_called_172 : decode prog_13_method_32_code 172 = .ok (.iconst 2, 1) := by decide +kernel
theorem d_Mo_called_173 : decode prog_13_method_32_code 173 = .ok (.if_icmp .ge 176, 3) := by decide +kernel
theorem d_Mo_called_176 : decode prog_13_method_32_code 176 = .ok (.iconst 2, 1) := by decide +kernel
theorem d_Mo_called_177 : decode prog_13_method_32_code 177 = .ok (.iload 4, 2) := by decide +kernel
theorem d_Mo_called_179 : decode prog_13_method_32_code 179 = .ok (.imul, 1) := by decide +kernel
theorem d_Mo_called_180 : decode prog_13_method_32_code 180 = .ok (.iload 5, 2) := by decide +kernel
theorem d_Mo_called_182 : decode prog_13_method_32_code 182 = .ok (.iadd, 1) := by decide +kernel
theorem d_Mo_called_183 : decode prog_13_method_32_code 183 = .ok (.istore 6, 2) := by decide +kernel
theorem d_Mo_called_185 : decode prog_13_method_32_code 185 = .ok (.aload_n 0, 1) := by decide +kernel
theorem d_Mo_called_186 : decode prog_13_method_32_code 186 = .ok (.getfield 56, 3) := by decide +kernel
theorem d_Mo_called_189 : decode prog_13_method_32_code 189 = .ok (.bipush 104, 2) := by decide +kernel
theorem d_Mo_called_191 : decode prog_13_method_32_code 191 = .ok (.iload_n 1, 1) := by decide +kernel
theorem d_Mo_called_192 : decode prog_13_method_32_code 192 = .ok (.imul, 1) := by decide +kernel
theorem d_Mo_called_193 : decode prog_13_method_32_code 193 = .ok (.bipush 99, 2) := by decide +kernel
theorem d_Mo_called_195 : decode prog_13_method_32_code 195 = .ok (.iadd, 1) := by decide +kernel
theorem d_Mo_called_196 : decode prog_13_method_32_code 196 = .ok (.iload 5, 2) := by decide +kernel
theorem d_Mo_called_198 : decode prog_13_method_32_code 198 = .ok (.iadd, 1) := by decide +kernel
theorem d_Mo_called_199 : decode prog_13_method_32_code 199 = .ok (.dup2, 1) := by decide +kernel
theorem d_Mo_called_200 : decode prog_13_method_32_code 200 = .ok (.laload, 1) := by decide +kernel
theorem d_Mo_called_201 : decode prog_13_method_32_code 201 = .ok (.aload_n 0, 1) := by decide +kernel
theorem d_Mo_called_202 : decode prog_13_method_32_code 202 = .ok (.getfield 41, 3) := by decide +kernel
theorem d_Mo_called_205 : decode prog_13_method_32_code 205 = .ok (.iload 6, 2) := by decide +kernel
theorem d_Mo_called_207 : decode prog_13_method_32_code 207 = .ok (.iaload, 1) := by decide +kernel
theorem d_Mo_called_208 : decode prog_13_method_32_code 208 = .ok (.i2l, 1) := by decide +kernel
theorem d_Mo_called_209 : decode prog_13_method_32_code 209 = .ok (.lsub, 1) := by decide +kernel
theorem d_Mo_called_210 : decode prog_13_method_32_code 210 = .ok (.lastore, 1) := by decide +kernel
theorem d_Mo_called_211 : decode prog_13_method_32_code 211 = .ok (.iconst 3, 1) := by decide +kernel
theorem d_Mo_called_212 : decode prog_13_method_32_code 212 = .ok (.iload 6, 2) := by decide +kernel
theorem d_Mo_called_214 : decode prog_13_method_32_code 214 = .ok (.imul, 1) := by decide +kernel
theorem d_Mo_called_215 : decode prog_13_method_32_code 215 = .ok (.istore 7, 2) := by decide +kernel
theorem d_Mo_called_217 : decode prog_13_method_32_code 217 = .ok (.iload 7, 2) := by decide +kernel
theorem d_Mo_called_219 : decode prog_13_method_32_code 219 = .ok (.iconst 3, 1) := by decide +kernel
theorem d_Mo_called_220 : decode prog_13_method_32_code 220 = .ok (.iload 6, 2) := by decide +kernel
theorem d_Mo_called_222 : decode prog_13_method_32_code 222 = .ok (.imul, 1) := by decide +kernel
theorem d_Mo_called_223 : decode prog_13_method_32_code 223 = .ok (.aload_n 0, 1) := by decide +kernel
theorem d_Mo_called_224 : decode prog_13_method_32_code 224 = .ok (.getfield 44, 3) := by decide +kernel
theorem d_Mo_called_227 : decode prog_13_method_32_code 227 = .ok (.iload 6, 2) := by decide +kernel
theorem d_Mo_called_229 : decode prog_13_method_32_code 229 = .ok (.iaload, 1) := by decide +kernel
theorem d_Mo_called_230 : decode prog_13_method_32_code 230 = .ok (.iadd, 1) := by decide +kernel
theorem d_Mo_called_231 : decode prog_13_method_32_code 231 = .ok (.if_icmp .ge 112, 3) := by decide +kernel
theorem d_Mo_called_234 : decode prog_13_method_32_code 234 = .ok (.aload_n 0, 1) := by decide +kernel
theorem d_Mo_called_235 : decode prog_13_method_32_code 235 = .ok (.iload_n 1, 1) := by decide +kernel
theorem d_Mo_called_236 : decode prog_13_method_32_code 236 = .ok (.iload_n 3, 1) := by decide +kernel
theorem d_Mo_called_237 : decode prog_13_method_32_code 237 = .ok (.aload_n 0, 1) := by decide +kernel
theorem d_Mo_called_238 : decode prog_13_method_32_code 238 = .ok (.getfield 50, 3) := by decide +kernel
theorem d_Mo_called_241 : decode prog_13_method_32_code 241 = .ok (.iload 7, 2) := by decide +kernel
theorem d_Mo_called_243 : decode prog_13_method_32_code 243 = .ok (.iaload, 1) := by decide +kernel
theorem d_Mo_called_244 : decode prog_13_method_32_code 244 = .ok (.invokevirtual 204, 3) := by decide +kernel
theorem d_Mo_called_247 : decode prog_13_method_32_code 247 = .ok (.lstore 8, 2) := by decide +kernel
theorem d_Mo_called_249 : decode prog_13_method_32_code 249 = .ok (.aload_n 0, 1) := by decide +kernel
theorem d_Mo_called_250 : decode prog_13_method_32_code 250 = .ok (.iload_n 1, 1) := by decide +kernel
theorem d_Mo_called_251 : decode prog_13_method_32_code 251 = .ok (.iload_n 3, 1) := by decide +kernel
theorem d_Mo_called_252 : decode prog_13_method_32_code 252 = .ok (.aload_n 0, 1) := by decide +kernel
theorem d_Mo_called_253 : decode prog_13_method_32_code 253 = .ok (.getfield 53, 3) := by decide +kernel
theorem d_Mo_called_256 : decode prog_13_method_32_code 256 = .ok (.iload 7, 2) := by decide +kernel
theorem d_Mo_called_258 : decode prog_13_method_32_code 258 = .ok (.iaload, 1) := by decide +kernel
theorem d_Mo_called_259 : decode prog_13_method_32_code 259 = .ok (.invokevirtual 204, 3) := by decide +kernel
theorem d_Mo_called_262 : decode prog_13_method_32_code 262 = .ok (.lstore 10, 2) := by decide +kernel
theorem d_Mo_called_264 : decode prog_13_method_32_code 264 = .ok (.lload 8, 2) := by decide +kernel
theorem d_Mo_called_266 : decode prog_13_method_32_code 266 = .ok (.lconst 0, 1) := by decide +kernel
theorem d_Mo_called_267 : decode prog_13_method_32_code 267 = .ok (.lcmp, 1) := by decide +kernel
theorem d_Mo_called_268 : decode prog_13_method_32_code 268 = .ok (.ifCond .lt 10, 3) := by decide +kernel
theorem d_Mo_called_271 : decode prog_13_method_32_code 271 = .ok (.lload 10, 2) := by decide +kernel
theorem d_Mo_called_273 : decode prog_13_method_32_code 273 = .ok (.lconst 0, 1) := by decide +kernel
theorem d_Mo_called_274 : decode prog_13_method_32_code 274 = .ok (.lcmp, 1) := by decide +kernel
theorem d_Mo_called_275 : decode prog_13_method_32_code 275 = .ok (.ifCond .ge 6, 3) := by decide +kernel
theorem d_Mo_called_278 : decode prog_13_method_32_code 278 = .ok (.bipush 6, 2) := by decide +kernel
theorem d_Mo_called_280 : decode prog_13_method_32_code 280 = .ok (.ireturn, 1) := by decide +kernel
theorem d_Mo_called_281 : decode prog_13_method_32_code 281 = .ok (.aload_n 0, 1) := by decide +kernel
theorem d_Mo_called_282 : decode prog_13_method_32_code 282 = .ok (.iload_n 1, 1) := by decide +kernel
theorem d_Mo_called_283 : decode prog_13_method_32_code 283 = .ok (.iload 5, 2) := by decide +kernel
theorem d_Mo_called_285 : decode prog_13_method_32_code 285 = .ok (.ifCond .ne 8, 3) := by decide +kernel
theorem d_Mo_called_288 : decode prog_13_method_32_code 288 = .ok (.bipush 49, 2) := by decide +kernel
theorem d_Mo_called_290 : decode prog_13_method_32_code 290 = .ok (.goto 5, 3) := by decide +kernel
theorem d_Mo_called_293 : decode prog_13_method_32_code 293 = .ok (.bipush 74, 2) := by decide +kernel
theorem d_Mo_called_295 : decode prog_13_method_32_code 295 = .ok (.aload_n 0, 1) := by decide +kernel
theorem d_Mo_called_296 : decode prog_13_method_32_code 296 = .ok (.getfield 47, 3) := by decide +kernel
theorem d_Mo_called_299 : decode prog_13_method_32_code 299 = .ok (.iload 7, 2) := by decide +kernel
theorem d_Mo_called_301 : decode prog_13_method_32_code 301 = .ok (.iaload, 1) := by decide +kernel
theorem d_Mo_called_302 : decode prog_13_method_32_code 302 = .ok (.ineg, 1) := by decide +kernel
theorem d_Mo_called_303 : decode prog_13_method_32_code 303 = .ok (.i2l, 1) := by decide +kernel
theorem d_Mo_called_304 : decode prog_13_method_32_code 304 = .ok (.lload 8, 2) := by decide +kernel
theorem d_Mo_called_306 : decode prog_13_method_32_code 306 = .ok (.aload_n 0, 1) := by decide +kernel
theorem d_Mo_called_307 : decode prog_13_method_32_code 307 = .ok (.iload_n 1, 1) := by decide +kernel
theorem d_Mo_called_308 : decode prog_13_method_32_code 308 = .ok (.iload_n 3, 1) := by decide +kernel
theorem d_Mo_called_309 : decode prog_13_method_32_code 309 = .ok (.aload_n 0, 1) := by decide +kernel
theorem d_Mo_called_310 : decode prog_13_method_32_code 310 = .ok (.getfield 50, 3) := by decide +kernel
theorem d_Mo_called_313 : decode prog_13_method_32_code 313 = .ok (.iload 7, 2) := by decide +kernel
theorem d_Mo_called_315 : decode prog_13_method_32_code 315 = .ok (.iaload, 1) := by decide +kernel
theorem d_Mo_called_316 : decode prog_13_method_32_code 316 = .ok (.invokevirtual 208, 3) := by decide +kernel
theorem d_Mo_called_319 : decode prog_13_method_32_code 319 = .ok (.lload 10, 2) := by decide +kernel
theorem d_Mo_called_321 : decode prog_13_method_32_code 321 = .ok (.aload_n 0, 1) := by decide +kernel
theorem d_Mo_called_322 : decode prog_13_method_32_code 322 = .ok (.iload_n 1, 1) := by decide +kernel
theorem d_Mo_called_323 : decode prog_13_method_32_code 323 = .ok (.iload_n 3, 1) := by decide +kernel
theorem d_Mo_called_324 : decode prog_13_method_32_code 324 = .ok (.aload_n 0, 1) := by decide +kernel
theorem d_Mo_called_325 : decode prog_13_method_32_code 325 = .ok (.getfield 53, 3) := by decide +kernel
theorem d_Mo_called_328 : decode prog_13_method_32_code 328 = .ok (.iload 7, 2) := by decide +kernel
theorem d_Mo_called_330 : decode prog_13_method_32_code 330 = .ok (.iaload, 1) := by decide +kernel
theorem d_Mo_called_331 : decode prog_13_method_32_code 331 = .ok (.invokevirtual 208, 3) := by decide +kernel
theorem d_Mo_called_334 : decode prog_13_method_32_code 334 = .ok (.invokevirtual 135, 3) := by decide +kernel
theorem d_Mo_called_337 : decode prog_13_method_32_code 337 = .ok (.iinc 7 1, 3) := by decide +kernel
theorem d_Mo_called_340 : decode prog_13_method_32_code 340 = .ok (.goto (-123), 3) := by decide +kernel
theorem d_Mo_called_343 : decode prog_13_method_32_code 343 = .ok (.iinc 5 1, 3) := by decide +kernel
theorem d_Mo_called_346 : decode prog_13_method_32_code 346 = .ok (.goto (-176), 3) := by decide +kernel
theorem d_Mo_called_349 : decode prog_13_method_32_code 349 = .ok (.aload_n 0, 1) := by decide +kernel
theorem d_Mo_called_350 : decode prog_13_method_32_code 350 = .ok (.iload_n 1, 1) := by decide +kernel
theorem d_Mo_called_351 : decode prog_13_method_32_code 351 = .ok (.ldc2_w 187, 3) := by decide +kernel
theorem d_Mo_called_354 : decode prog_13_method_32_code 354 = .ok (.lconst 0, 1) := by decide +kernel
theorem d_Mo_called_355 : decode prog_13_method_32_code 355 = .ok (.invokevirtual 183, 3) := by decide +kernel
theorem d_Mo_called_358 : decode prog_13_method_32_code 358 = .ok (.iconst 0, 1) := by decide +kernel
theorem d_Mo_called_359 : decode prog_13_method_32_code 359 = .ok (.ireturn, 1) := by decide +kernel
theorem d_Mo_side_0 : decode prog_13_method_30_code 0 = .ok (.iload_n 3, 1) := by decide +kernel
theorem d_Mo_side_1 : decode prog_13_method_30_code 1 = .ok (.iconst 3, 1) := by decide +kernel
theorem d_Mo_side_2 : decode prog_13_method_30_code 2 = .ok (.if_icmp .lt 9, 3) := by decide +kernel
theorem d_Mo_side_5 : decode prog_13_method_30_code 5 = .ok (.ldc2_w 110, 3) := by decide +kernel
theorem d_Mo_side_8 : decode prog_13_method_30_code 8 = .ok (.goto 13, 3) := by decide +kernel
theorem d_Mo_side_11 : decode prog_13_method_30_code 11 = .ok (.aload_n 0, 1) := by decide +kernel
theorem d_Mo_side_12 : decode prog_13_method_30_code 12 = .ok (.getfield 56, 3) := by decide +kernel
theorem d_Mo_side_15 : decode prog_13_method_30_code 15 = .ok (.iload_n 2, 1) := by decide +kernel
theorem d_Mo_side_16 : decode prog_13_method_30_code 16 = .ok (.iconst 2, 1) := by decide +kernel
theorem d_Mo_side_17 : decode prog_13_method_30_code 17 = .ok (.iload_n 3, 1) := by decide +kernel
theorem d_Mo_side_18 : decode prog_13_method_30_code 18 = .ok (.imul, 1) := by decide +kernel
theorem d_Mo_side_19 : decode prog_13_method_30_code 19 = .ok (.iadd, 1) := by decide +kernel
theorem d_Mo_side_20 : decode prog_13_method_30_code 20 = .ok (.laload, 1) := by decide +kernel
theorem d_Mo_side_21 : decode prog_13_method_30_code 21 = .ok (.lreturn, 1) := by decide +kernel
theorem d_Mo_extra_0 : decode prog_13_method_31_code 0 = .ok (.iload_n 3, 1) := by decide +kernel
theorem d_Mo_extra_1 : decode prog_13_method_31_code 1 = .ok (.iconst 3, 1) := by decide +kernel
theorem d_Mo_extra_2 : decode prog_13_method_31_code 2 = .ok (.if_icmp .lt 7, 3) := by decide +kernel
theorem d_Mo_extra_5 : decode prog_13_method_31_code 5 = .ok (.lconst 0, 1) := by decide +kernel
theorem d_Mo_extra_6 : decode prog_13_method_31_code 6 = .ok (.goto 15, 3) := by decide +kernel
theorem d_Mo_extra_9 : decode prog_13_method_31_code 9 = .ok (.aload_n 0, 1) := by decide +kernel
theorem d_Mo_extra_10 : decode prog_13_method_31_code 10 = .ok (.getfield 56, 3) := by decide +kernel
theorem d_Mo_extra_13 : decode prog_13_method_31_code 13 = .ok (.iload_n 2, 1) := by decide +kernel
theorem d_Mo_extra_14 : decode prog_13_method_31_code 14 = .ok (.iconst 2, 1) := by decide +kernel
theorem d_Mo_extra_15 : decode prog_13_method_31_code 15 = .ok (.iload_n 3, 1) := by decide +kernel
theorem d_Mo_extra_16 : decode prog_13_method_31_code 16 = .ok (.imul, 1) := by decide +kernel
theorem d_Mo_extra_17 : decode prog_13_method_31_code 17 = .ok (.iadd, 1) := by decide +kernel
theorem d_Mo_extra_18 : decode prog_13_method_31_code 18 = .ok (.iconst 1, 1) := by decide +kernel
theorem d_Mo_extra_19 : decode prog_13_method_31_code 19 = .ok (.iadd, 1) := by decide +kernel
theorem d_Mo_extra_20 : decode prog_13_method_31_code 20 = .ok (.laload, 1) := by decide +kernel
theorem d_Mo_extra_21 : decode prog_13_method_31_code 21 = .ok (.lreturn, 1) := by decide +kernel
theorem d_Mo_push_0 : decode prog_13_method_23_code 0 = .ok (.bipush 104, 2) := by decide +kernel
theorem d_Mo_push_2 : decode prog_13_method_23_code 2 = .ok (.iload_n 1, 1) := by decide +kernel
theorem d_Mo_push_3 : decode prog_13_method_23_code 3 = .ok (.imul, 1) := by decide +kernel
theorem d_Mo_push_4 : decode prog_13_method_23_code 4 = .ok (.istore 6, 2) := by decide +kernel
theorem d_Mo_push_6 : decode prog_13_method_23_code 6 = .ok (.iload 6, 2) := by decide +kernel
theorem d_Mo_push_8 : decode prog_13_method_23_code 8 = .ok (.bipush 12, 2) := by decide +kernel
theorem d_Mo_push_10 : decode prog_13_method_23_code 10 = .ok (.iadd, 1) := by decide +kernel
theorem d_Mo_push_11 : decode prog_13_method_23_code 11 = .ok (.iconst 2, 1) := by decide +kernel
theorem d_Mo_push_12 : decode prog_13_method_23_code 12 = .ok (.aload_n 0, 1) := by decide +kernel
theorem d_Mo_push_13 : decode prog_13_method_23_code 13 = .ok (.getfield 56, 3) := by decide +kernel
theorem d_Mo_push_16 : decode prog_13_method_23_code 16 = .ok (.iload 6, 2) := by decide +kernel
theorem d_Mo_push_18 : decode prog_13_method_23_code 18 = .ok (.iconst 2, 1) := by decide +kernel
theorem d_Mo_push_19 : decode prog_13_method_23_code 19 = .ok (.iadd, 1) := by decide +kernel
theorem d_Mo_push_20 : decode prog_13_method_23_code 20 = .ok (.laload, 1) := by decide +kernel
theorem d_Mo_push_21 : decode prog_13_method_23_code 21 = .ok (.l2i, 1) := by decide +kernel
theorem d_Mo_push_22 : decode prog_13_method_23_code 22 = .ok (.imul, 1) := by decide +kernel
theorem d_Mo_push_23 : decode prog_13_method_23_code 23 = .ok (.iadd, 1) := by decide +kernel
theorem d_Mo_push_24 : decode prog_13_method_23_code 24 = .ok (.istore 7, 2) := by decide +kernel
theorem d_Mo_push_26 : decode prog_13_method_23_code 26 = .ok (.aload_n 0, 1) := by decide +kernel
theorem d_Mo_push_27 : decode prog_13_method_23_code 27 = .ok (.getfield 56, 3) := by decide +kernel
theorem d_Mo_push_30 : decode prog_13_method_23_code 30 = .ok (.iload 7, 2) := by decide +kernel
theorem d_Mo_push_32 : decode prog_13_method_23_code 32 = .ok (.lload_n 2, 1) := by decide +kernel
theorem d_Mo_push_33 : decode prog_13_method_23_code 33 = .ok (.lastore, 1) := by decide +kernel
theorem d_Mo_push_34 : decode prog_13_method_23_code 34 = .ok (.aload_n 0, 1) := by decide +kernel
theorem d_Mo_push_35 : decode prog_13_method_23_code 35 = .ok (.getfield 56, 3) := by decide +kernel
theorem d_Mo_push_38 : decode prog_13_method_23_code 38 = .ok (.iload 7, 2) := by decide +kernel
theorem d_Mo_push_40 : decode prog_13_method_23_code 40 = .ok (.iconst 1, 1) := by decide +kernel
theorem d_Mo_push_41 : decode prog_13_method_23_code 41 = .ok (.iadd, 1) := by decide +kernel
theorem d_Mo_push_42 : decode prog_13_method_23_code 42 = .ok (.lload 4, 2) := by decide +kernel
theorem d_Mo_push_44 : decode prog_13_method_23_code 44 = .ok (.lastore, 1) := by decide +kernel
theorem d_Mo_push_45 : decode prog_13_method_23_code 45 = .ok (.aload_n 0, 1) := by decide +kernel
theorem d_Mo_push_46 : decode prog_13_method_23_code 46 = .ok (.getfield 56, 3) := by decide +kernel
theorem d_Mo_push_49 : decode prog_13_method_23_code 49 = .ok (.iload 6, 2) := by decide +kernel
theorem d_Mo_push_51 : decode prog_13_method_23_code 51 = .ok (.iconst 2, 1) := by decide +kernel
theorem d_Mo_push_52 : decode prog_13_method_23_code 52 = .ok (.iadd, 1) := by decide +kernel
theorem d_Mo_push_53 : decode prog_13_method_23_code 53 = .ok (.dup2, 1) := by decide +kernel
theorem d_Mo_push_54 : decode prog_13_method_23_code 54 = .ok (.laload, 1) := by decide +kernel
theorem d_Mo_push_55 : decode prog_13_method_23_code 55 = .ok (.lconst 1, 1) := by decide +kernel
theorem d_Mo_push_56 : decode prog_13_method_23_code 56 = .ok (.ladd, 1) := by decide +kernel
theorem d_Mo_push_57 : decode prog_13_method_23_code 57 = .ok (.lastore, 1) := by decide +kernel
theorem d_Mo_push_58 : decode prog_13_method_23_code 58 = .ok (.return_, 1) := by decide +kernel
theorem d_Mo_simple_0 : decode prog_13_method_25_code 0 = .ok (.bipush 104, 2) := by decide +kernel
theorem d_Mo_simple_2 : decode prog_13_method_25_code 2 = .ok (.iload_n 1, 1) := by decide +kernel
theorem d_Mo_simple_3 : decode prog_13_method_25_code 3 = .ok (.imul, 1) := by decide +kernel
theorem d_Mo_simple_4 : decode prog_13_method_25_code 4 = .ok (.istore 4, 2) := by decide +kernel
theorem d_Mo_simple_6 : decode prog_13_method_25_code 6 = .ok (.iload_n 2, 1) := by decide +kernel
theorem d_Mo_simple_7 : decode prog_13_method_25_code 7 = .ok (.ifCond .ne 13, 3) := by decide +kernel
theorem d_Mo_simple_10 : decode prog_13_method_25_code 10 = .ok (.aload_n 0, 1) := by decide +kernel
theorem d_Mo_simple_11 : decode prog_13_method_25_code 11 = .ok (.iload_n 1, 1) := by decide +kernel
theorem d_Mo_simple_12 : decode prog_13_method_25_code 12 = .ok (.ldc2_w 110, 3) := by decide +kernel
theorem d_Mo_simple_15 : decode prog_13_method_25_code 15 = .ok (.iload_n 3, 1) := by decide +kernel
theorem d_Mo_simple_16 : decode prog_13_method_25_code 16 = .ok (.i2l, 1) := by decide +kernel
theorem d_Mo_simple_17 : decode prog_13_method_25_code 17 = .ok (.invokevirtual 183, 3) := by decide +kernel
theorem d_Mo_simple_20 : decode prog_13_method_25_code 20 = .ok (.iload_n 2, 1) := by decide +kernel
theorem d_Mo_simple_21 : decode prog_13_method_25_code 21 = .ok (.iconst 1, 1) := by decide +kernel
theorem d_Mo_simple_22 : decode prog_13_method_25_code 22 = .ok (.if_icmp .ne 34, 3) := by decide +kernel
theorem d_Mo_simple_25 : decode prog_13_method_25_code 25 = .ok (.aload_n 0, 1) := by decide +kernel
theorem d_Mo_simple_26 : decode prog_13_method_25_code 26 = .ok (.iload_n 1, 1) := by decide +kernel
theorem d_Mo_simple_27 : decode prog_13_method_25_code 27 = .ok (.aload_n 0, 1) := by decide +kernel
theorem d_Mo_simple_28 : decode prog_13_method_25_code 28 = .ok (.getfield 56, 3) := by decide +kernel
theorem d_Mo_simple_31 : decode prog_13_method_25_code 31 = .ok (.iload 4, 2) := by decide +kernel
theorem d_Mo_simple_33 : decode prog_13_method_25_code 33 = .ok (.iconst 4, 1) := by decide +kernel
theorem d_Mo_simple_34 : decode prog_13_method_25_code 34 = .ok (.iadd, 1) := by decide +kernel
theorem d_Mo_simple_35 : decode prog_13_method_25_code 35 = .ok (.iconst 2, 1) := by decide +kernel
theorem d_Mo_simple_36 : decode prog_13_method_25_code 36 = .ok (.iload_n 3, 1) := by decide +kernel
theorem d_Mo_simple_37 : decode prog_13_method_25_code 37 = .ok (.imul, 1) := by decide +kernel
theorem d_Mo_simple_38 : decode prog_13_method_25_code 38 = .ok (.iadd, 1) := by decide +kernel
theorem d_Mo_simple_39 : decode prog_13_method_25_code 39 = .ok (.laload, 1) := by decide +kernel
theorem d_Mo_simple_40 : decode prog_13_method_25_code 40 = .ok (.aload_n 0, 1) := by decide +kernel
theorem d_Mo_simple_41 : decode prog_13_method_25_code 41 = .ok (.getfield 56, 3) := by decide +kernel
theorem d_Mo_simple_44 : decode prog_13_method_25_code 44 = .ok (.iload 4, 2) := by decide +kernel
theorem d_Mo_simple_46 : decode prog_13_method_25_code 46 = .ok (.iconst 5, 1) := by decide +kernel
theorem d_Mo_simple_47 : decode prog_13_method_25_code 47 = .ok (.iadd, 1) := by decide +kernel
theorem d_Mo_simple_48 : decode prog_13_method_25_code 48 = .ok (.iconst 2, 1) := by decide +kernel
theorem d_Mo_simple_49 : decode prog_13_method_25_code 49 = .ok (.iload_n 3, 1) := by decide +kernel
theorem d_Mo_simple_50 : decode prog_13_method_25_code 50 = .ok (.imul, 1) := by decide +kernel
theorem d_Mo_simple_51 : decode prog_13_method_25_code 51 = .ok (.iadd, 1) := by decide +kernel
theorem d_Mo_simple_52 : decode prog_13_method_25_code 52 = .ok (.laload, 1) := by decide +kernel
theorem d_Mo_simple_53 : decode prog_13_method_25_code 53 = .ok (.invokevirtual 183, 3) := by decide +kernel
theorem d_Mo_simple_56 : decode prog_13_method_25_code 56 = .ok (.iload_n 2, 1) := by decide +kernel
theorem d_Mo_simple_57 : decode prog_13_method_25_code 57 = .ok (.bipush 13, 2) := by decide +kernel
theorem d_Mo_simple_59 : decode prog_13_method_25_code 59 = .ok (.if_icmp .ne 12, 3) := by decide +kernel
theorem d_Mo_simple_62 : decode prog_13_method_25_code 62 = .ok (.aload_n 0, 1) := by decide +kernel
theorem d_Mo_simple_63 : decode prog_13_method_25_code 63 = .ok (.iload_n 1, 1) := by decide +kernel
theorem d_Mo_simple_64 : decode prog_13_method_25_code 64 = .ok (.ldc2_w 187, 3) := by decide +kernel
theorem d_Mo_simple_67 : decode prog_13_method_25_code 67 = .ok (.lconst 0, 1) := by decide +kernel
theorem d_Mo_simple_68 : decode prog_13_method_25_code 68 = .ok (.invokevirtual 183, 3) := by decide +kernel
theorem d_Mo_simple_71 : decode prog_13_method_25_code 71 = .ok (.iload_n 2, 1) := by decide +kernel
theorem d_Mo_simple_72 : decode prog_13_method_25_code 72 = .ok (.iconst 5, 1) := by decide +kernel
theorem d_Mo_simple_73 : decode prog_13_method_25_code 73 = .ok (.if_icmp .eq 9, 3) := by decide +kernel
theorem d_Mo_simple_76 : decode prog_13_method_25_code 76 = .ok (.iload_n 2, 1) := by decide +kernel
theorem d_Mo_simple_77 : decode prog_13_method_25_code 77 = .ok (.bipush 6, 2) := by decide +kernel
theorem d_Mo_simple_79 : decode prog_13_method_25_code 79 = .ok (.if_icmp .ne 23, 3) := by decide +kernel
theorem d_Mo_simple_82 : decode prog_13_method_25_code 82 = .ok (.aload_n 0, 1) := by decide +kernel
theorem d_Mo_simple_83 : decode prog_13_method_25_code 83 = .ok (.getfield 56, 3) := by decide +kernel
theorem d_Mo_simple_86 : decode prog_13_method_25_code 86 = .ok (.iload 4, 2) := by decide +kernel
theorem d_Mo_simple_88 : decode prog_13_method_25_code 88 = .ok (.iconst 5, 1) := by decide +kernel
theorem d_Mo_simple_89 : decode prog_13_method_25_code 89 = .ok (.iadd, 1) := by decide +kernel
theorem d_Mo_simple_90 : decode prog_13_method_25_code 90 = .ok (.iconst 2, 1) := by decide +kernel
theorem d_Mo_simple_91 : decode prog_13_method_25_code 91 = .ok (.iload_n 2, 1) := by decide +kernel
theorem d_Mo_simple_92 : decode prog_13_method_25_code 92 = .ok (.iconst 5, 1) := by decide +kernel
theorem d_Mo_simple_93 : decode prog_13_method_25_code 93 = .ok (.isub, 1) := by decide +kernel
theorem d_Mo_simple_94 : decode prog_13_method_25_code 94 = .ok (.imul, 1) := by decide +kernel
theorem d_Mo_simple_95 : decode prog_13_method_25_code 95 = .ok (.iadd, 1) := by decide +kernel
theorem d_Mo_simple_96 : decode prog_13_method_25_code 96 = .ok (.dup2, 1) := by decide +kernel
theorem d_Mo_simple_97 : decode prog_13_method_25_code 97 = .ok (.laload, 1) := by decide +kernel
theorem d_Mo_simple_98 : decode prog_13_method_25_code 98 = .ok (.iload_n 3, 1) := by decide +kernel
theorem d_Mo_simple_99 : decode prog_13_method_25_code 99 = .ok (.i2l, 1) := by decide +kernel
theorem d_Mo_simple_100 : decode prog_13_method_25_code 100 = .ok (.ladd, 1) := by decide +kernel
theorem d_Mo_simple_101 : decode prog_13_method_25_code 101 = .ok (.lastore, 1) := by decide +kernel
theorem d_Mo_simple_102 : decode prog_13_method_25_code 102 = .ok (.iload_n 2, 1) := by decide +kernel
theorem d_Mo_simple_103 : decode prog_13_method_25_code 103 = .ok (.bipush 14, 2) := by decide +kernel
theorem d_Mo_simple_105 : decode prog_13_method_25_code 105 = .ok (.if_icmp .ne 9, 3) := by decide +kernel
theorem d_Mo_simple_108 : decode prog_13_method_25_code 108 = .ok (.aload_n 0, 1) := by decide +kernel
theorem d_Mo_simple_109 : decode prog_13_method_25_code 109 = .ok (.iload_n 1, 1) := by decide +kernel
theorem d_Mo_simple_110 : decode prog_13_method_25_code 110 = .ok (.invokevirtual 189, 3) := by decide +kernel
theorem d_Mo_simple_113 : decode prog_13_method_25_code 113 = .ok (.pop, 1) := by decide +kernel
theorem d_Mo_simple_114 : decode prog_13_method_25_code 114 = .ok (.iload_n 2, 1) := by decide +kernel
theorem d_Mo_simple_115 : decode prog_13_method_25_code 115 = .ok (.iconst 2, 1) := by decide +kernel
theorem d_Mo_simple_116 : decode prog_13_method_25_code 116 = .ok (.if_icmp .ne 52, 3) := by decide +kernel
theorem d_Mo_simple_119 : decode prog_13_method_25_code 119 = .ok (.aload_n 0, 1) := by decide +kernel
theorem d_Mo_simple_120 : decode prog_13_method_25_code 120 = .ok (.iload_n 1, 1) := by decide +kernel
theorem d_Mo_simple_121 : decode prog_13_method_25_code 121 = .ok (.invokevirtual 189, 3) := by decide +kernel
theorem d_Mo_simple_124 : decode prog_13_method_25_code 124 = .ok (.istore 5, 2) := by decide +kernel
theorem d_Mo_simple_126 : decode prog_13_method_25_code 126 = .ok (.aload_n 0, 1) := by decide +kernel
theorem d_Mo_simple_127 : decode prog_13_method_25_code 127 = .ok (.getfield 56, 3) := by decide +kernel
theorem d_Mo_simple_130 : decode prog_13_method_25_code 130 = .ok (.iload 4, 2) := by decide +kernel
theorem d_Mo_simple_132 : decode prog_13_method_25_code 132 = .ok (.iconst 4, 1) := by decide +kernel
theorem d_Mo_simple_133 : decode prog_13_method_25_code 133 = .ok (.iadd, 1) := by decide +kernel
theorem d_Mo_simple_134 : decode prog_13_method_25_code 134 = .ok (.iconst 2, 1) := by decide +kernel
theorem d_Mo_simple_135 : decode prog_13_method_25_code 135 = .ok (.iload_n 3, 1) := by decide +kernel
theorem d_Mo_simple_136 : decode prog_13_method_25_code 136 = .ok (.imul, 1) := by decide +kernel
theorem d_Mo_simple_137 : decode prog_13_method_25_code 137 = .ok (.iadd, 1) := by decide +kernel
theorem d_Mo_simple_138 : decode prog_13_method_25_code 138 = .ok (.aload_n 0, 1) := by decide +kernel
theorem d_Mo_simple_139 : decode prog_13_method_25_code 139 = .ok (.getfield 56, 3) := by decide +kernel
theorem d_Mo_simple_142 : decode prog_13_method_25_code 142 = .ok (.iload 5, 2) := by decide +kernel
theorem d_Mo_simple_144 : decode prog_13_method_25_code 144 = .ok (.laload, 1) := by decide +kernel
theorem d_Mo_simple_145 : decode prog_13_method_25_code 145 = .ok (.lastore, 1) := by decide +kernel
theorem d_Mo_simple_146 : decode prog_13_method_25_code 146 = .ok (.aload_n 0, 1) := by decide +kernel
theorem d_Mo_simple_147 : decode prog_13_method_25_code 147 = .ok (.getfield 56, 3) := by decide +kernel
theorem d_Mo_simple_150 : decode prog_13_method_25_code 150 = .ok (.iload 4, 2) := by decide +kernel
theorem d_Mo_simple_152 : decode prog_13_method_25_code 152 = .ok (.iconst 5, 1) := by decide +kernel
theorem d_Mo_simple_153 : decode prog_13_method_25_code 153 = .ok (.iadd, 1) := by decide +kernel
theorem d_Mo_simple_154 : decode prog_13_method_25_code 154 = .ok (.iconst 2, 1) := by decide +kernel
theorem d_Mo_simple_155 : decode prog_13_method_25_code 155 = .ok (.iload_n 3, 1) := by decide +kernel
theorem d_Mo_simple_156 : decode prog_13_method_25_code 156 = .ok (.imul, 1) := by decide +kernel
theorem d_Mo_simple_157 : decode prog_13_method_25_code 157 = .ok (.iadd, 1) := by decide +kernel
theorem d_Mo_simple_158 : decode prog_13_method_25_code 158 = .ok (.aload_n 0, 1) := by decide +kernel
theorem d_Mo_simple_159 : decode prog_13_method_25_code 159 = .ok (.getfield 56, 3) := by decide +kernel
theorem d_Mo_simple_162 : decode prog_13_method_25_code 162 = .ok (.iload 5, 2) := by decide +kernel
theorem d_Mo_simple_164 : decode prog_13_method_25_code 164 = .ok (.iconst 1, 1) := by decide +kernel
theorem d_Mo_simple_165 : decode prog_13_method_25_code 165 = .ok (.iadd, 1) := by decide +kernel
theorem d_Mo_simple_166 : decode prog_13_method_25_code 166 = .ok (.laload, 1) := by decide +kernel
theorem d_Mo_simple_167 : decode prog_13_method_25_code 167 = .ok (.lastore, 1) := by decide +kernel
theorem d_Mo_simple_168 : decode prog_13_method_25_code 168 = .ok (.iload_n 2, 1) := by decide +kernel
theorem d_Mo_simple_169 : decode prog_13_method_25_code 169 = .ok (.iconst 3, 1) := by decide +kernel
theorem d_Mo_simple_170 : decode prog_13_method_25_code 170 = .ok (.if_icmp .eq 8, 3) := by decide +kernel
theorem d_Mo_simple_173 : decode prog_13_method_25_code 173 = .ok (.iload_n 2, 1) := by decide +kernel
theorem d_Mo_simple_174 : decode prog_13_method_25_code 174 = .ok (.iconst 4, 1) := by decide +kernel
theorem d_Mo_simple_175 : decode prog_13_method_25_code 175 = .ok (.if_icmp .ne 64, 3) := by decide +kernel
theorem d_Mo_simple_178 : decode prog_13_method_25_code 178 = .ok (.aload_n 0, 1) := by decide +kernel
theorem d_Mo_simple_179 : decode prog_13_method_25_code 179 = .ok (.iload_n 1, 1) := by decide +kernel
theorem d_Mo_simple_180 : decode prog_13_method_25_code 180 = .ok (.invokevirtual 189, 3) := by decide +kernel
theorem d_Mo_simple_183 : decode prog_13_method_25_code 183 = .ok (.istore 5, 2) := by decide +kernel
theorem d_Mo_simple_185 : decode prog_13_method_25_code 185 = .ok (.aload_n 0, 1) := by decide +kernel
theorem d_Mo_simple_186 : decode prog_13_method_25_code 186 = .ok (.iload_n 1, 1) := by decide +kernel
theorem d_Mo_simple_187 : decode prog_13_method_25_code 187 = .ok (.invokevirtual 189, 3) := by decide +kernel
theorem d_Mo_simple_190 : decode prog_13_method_25_code 190 = .ok (.istore 6, 2) := by decide +kernel
theorem d_Mo_simple_192 : decode prog_13_method_25_code 192 = .ok (.aload_n 0, 1) := by decide +kernel
theorem d_Mo_simple_193 : decode prog_13_method_25_code 193 = .ok (.iload_n 1, 1) := by decide +kernel
theorem d_Mo_simple_194 : decode prog_13_method_25_code 194 = .ok (.iload_n 2, 1) := by decide +kernel
theorem d_Mo_simple_195 : decode prog_13_method_25_code 195 = .ok (.iconst 3, 1) := by decide +kernel
theorem d_Mo_simple_196 : decode prog_13_method_25_code 196 = .ok (.if_icmp .ne 7, 3) := by decide +kernel
theorem d_Mo_simple_199 : decode prog_13_method_25_code 199 = .ok (.iconst 1, 1) := by decide +kernel
theorem d_Mo_simple_200 : decode prog_13_method_25_code 200 = .ok (.goto 4, 3) := by decide +kernel
theorem d_Mo_simple_203 : decode prog_13_method_25_code 203 = .ok (.iconst 0, 1) := by decide +kernel
theorem d_Mo_simple_204 : decode prog_13_method_25_code 204 = .ok (.aload_n 0, 1) := by decide +kernel
theorem d_Mo_simple_205 : decode prog_13_method_25_code 205 = .ok (.getfield 56, 3) := by decide +kernel
theorem d_Mo_simple_208 : decode prog_13_method_25_code 208 = .ok (.iload 6, 2) := by decide +kernel
theorem d_Mo_simple_210 : decode prog_13_method_25_code 210 = .ok (.laload, 1) := by decide +kernel
theorem d_Mo_simple_211 : decode prog_13_method_25_code 211 = .ok (.aload_n 0, 1) := by decide +kernel
theorem d_Mo_simple_212 : decode prog_13_method_25_code 212 = .ok (.getfield 56, 3) := by decide +kernel
theorem d_Mo_simple_215 : decode prog_13_method_25_code 215 = .ok (.iload 6, 2) := by decide +kernel
theorem d_Mo_simple_217 : decode prog_13_method_25_code 217 = .ok (.iconst 1, 1) := by decide +kernel
theorem d_Mo_simple_218 : decode prog_13_method_25_code 218 = .ok (.iadd, 1) := by decide +kernel
theorem d_Mo_simple_219 : decode prog_13_method_25_code 219 = .ok (.laload, 1) := by decide +kernel
theorem d_Mo_simple_220 : decode prog_13_method_25_code 220 = .ok (.aload_n 0, 1) := by decide +kernel
theorem d_Mo_simple_221 : decode prog_13_method_25_code 221 = .ok (.getfield 56, 3) := by decide +kernel
theorem d_Mo_simple_224 : decode prog_13_method_25_code 224 = .ok (.iload 5, 2) := by decide +kernel
theorem d_Mo_simple_226 : decode prog_13_method_25_code 226 = .ok (.laload, 1) := by decide +kernel
theorem d_Mo_simple_227 : decode prog_13_method_25_code 227 = .ok (.aload_n 0, 1) := by decide +kernel
theorem d_Mo_simple_228 : decode prog_13_method_25_code 228 = .ok (.getfield 56, 3) := by decide +kernel
theorem d_Mo_simple_231 : decode prog_13_method_25_code 231 = .ok (.iload 5, 2) := by decide +kernel
theorem d_Mo_simple_233 : decode prog_13_method_25_code 233 = .ok (.iconst 1, 1) := by decide +kernel
theorem d_Mo_simple_234 : decode prog_13_method_25_code 234 = .ok (.iadd, 1) := by decide +kernel
theorem d_Mo_simple_235 : decode prog_13_method_25_code 235 = .ok (.laload, 1) := by decide +kernel
theorem d_Mo_simple_236 : decode prog_13_method_25_code 236 = .ok (.invokevirtual 192, 3) := by decide +kernel
theorem d_Mo_simple_239 : decode prog_13_method_25_code 239 = .ok (.return_, 1) := by decide +kernel
theorem d_Mo_combine_0 : decode prog_13_method_26_code 0 = .ok (.lload_n 3, 1) := by decide +kernel
theorem d_Mo_combine_1 : decode prog_13_method_26_code 1 = .ok (.lconst 0, 1) := by decide +kernel
theorem d_Mo_combine_2 : decode prog_13_method_26_code 2 = .ok (.lcmp, 1) := by decide +kernel
theorem d_Mo_combine_3 : decode prog_13_method_26_code 3 = .ok (.ifCond .lt 10, 3) := by decide +kernel
theorem d_Mo_combine_6 : decode prog_13_method_26_code 6 = .ok (.lload 7, 2) := by decide +kernel
theorem d_Mo_combine_8 : decode prog_13_method_26_code 8 = .ok (.lconst 0, 1) := by decide +kernel
theorem d_Mo_combine_9 : decode prog_13_method_26_code 9 = .ok (.lcmp, 1) := by decide +kernel
theorem d_Mo_combine_10 : decode prog_13_method_26_code 10 = .ok (.ifCond .ge 15, 3) := by decide +kernel
theorem d_Mo_combine_13 : decode prog_13_method_26_code 13 = .ok (.aload_n 0, 1) := by decide +kernel
theorem d_Mo_combine_14 : decode prog_13_method_26_code 14 = .ok (.iload_n 1, 1) := by decide +kernel
theorem d_Mo_combine_15 : decode prog_13_method_26_code 15 = .ok (.ldc2_w 187, 3) := by decide +kernel
theorem d_Mo_combine_18 : decode prog_13_method_26_code 18 = .ok (.lconst 0, 1) := by decide +kernel
theorem d_Mo_combine_19 : decode prog_13_method_26_code 19 = .ok (.invokevirtual 183, 3) := by decide +kernel
theorem d_Mo_combine_22 : decode prog_13_method_26_code 22 = .ok (.goto 114, 3) := by decide +kernel
theorem d_Mo_combine_25 : decode prog_13_method_26_code 25 = .ok (.iload_n 2, 1) := by decide +kernel
theorem d_Mo_combine_26 : decode prog_13_method_26_code 26 = .ok (.ifCond .eq 47, 3) := by decide +kernel
theorem d_Mo_combine_29 : decode prog_13_method_26_code 29 = .ok (.lload_n 3, 1) := by decide +kernel
theorem d_Mo_combine_30 : decode prog_13_method_26_code 30 = .ok (.ldc2_w 110, 3) := by decide +kernel
theorem d_Mo_combine_33 : decode prog_13_method_26_code 33 = .ok (.lcmp, 1) := by decide +kernel
theorem d_Mo_combine_34 : decode prog_13_method_26_code 34 = .ok (.ifCond .eq 12, 3) := by decide +kernel
theorem d_Mo_combine_37 : decode prog_13_method_26_code 37 = .ok (.lload 7, 2) := by decide +kernel
theorem d_Mo_combine_39 : decode prog_13_method_26_code 39 = .ok (.ldc2_w 110, 3) := by decide +kernel
theorem d_Mo_combine_42 : decode prog_13_method_26_code 42 = .ok (.lcmp, 1) := by decide +kernel
theorem d_Mo_combine_43 : decode prog_13_method_26_code 43 = .ok (.ifCond .ne 30, 3) := by decide +kernel
theorem d_Mo_combine_46 : decode prog_13_method_26_code 46 = .ok (.aload_n 0, 1) := by decide +kernel
theorem d_Mo_combine_47 : decode prog_13_method_26_code 47 = .ok (.iload_n 1, 1) := by decide +kernel
theorem d_Mo_combine_48 : decode prog_13_method_26_code 48 = .ok (.lload_n 3, 1) := by decide +kernel
theorem d_Mo_combine_49 : decode prog_13_method_26_code 49 = .ok (.ldc2_w 110, 3) := by decide +kernel
theorem d_Mo_combine_52 : decode prog_13_method_26_code 52 = .ok (.lcmp, 1) := by decide +kernel
theorem d_Mo_combine_53 : decode prog_13_method_26_code 53 = .ok (.ifCond .ne 8, 3) := by decide +kernel
theorem d_Mo_combine_56 : decode prog_13_method_26_code 56 = .ok (.lload 7, 2) := by decide +kernel
theorem d_Mo_combine_58 : decode prog_13_method_26_code 58 = .ok (.goto 4, 3) := by decide +kernel
theorem d_Mo_combine_61 : decode prog_13_method_26_code 61 = .ok (.lload_n 3, 1) := by decide +kernel
theorem d_Mo_combine_62 : decode prog_13_method_26_code 62 = .ok (.lload 5, 2) := by decide +kernel
theorem d_Mo_combine_64 : decode prog_13_method_26_code 64 = .ok (.lload 9, 2) := by decide +kernel
theorem d_Mo_combine_66 : decode prog_13_method_26_code 66 = .ok (.ladd, 1) := by decide +kernel
theorem d_Mo_combine_67 : decode prog_13_method_26_code 67 = .ok (.invokevirtual 183, 3) := by decide +kernel
theorem d_Mo_combine_70 : decode prog_13_method_26_code 70 = .ok (.goto 66, 3) := by decide +kernel
theorem d_Mo_combine_73 : decode prog_13_method_26_code 73 = .ok (.iload_n 2, 1) := by decide +kernel
theorem d_Mo_combine_74 : decode prog_13_method_26_code 74 = .ok (.ifCond .ne 26, 3) := by decide +kernel
theorem d_Mo_combine_77 : decode prog_13_method_26_code 77 = .ok (.lload_n 3, 1) := by decide +kernel
theorem d_Mo_combine_78 : decode prog_13_method_26_code 78 = .ok (.lload 7, 2) := by decide +kernel
theorem d_Mo_combine_80 : decode prog_13_method_26_code 80 = .ok (.lcmp, 1) := by decide +kernel
theorem d_Mo_combine_81 : decode prog_13_method_26_code 81 = .ok (.ifCond .ne 19, 3) := by decide +kernel
theorem d_Mo_combine_84 : decode prog_13_method_26_code 84 = .ok (.aload_n 0, 1) := by decide +kernel
theorem d_Mo_combine_85 : decode prog_13_method_26_code 85 = .ok (.iload_n 1, 1) := by decide +kernel
theorem d_Mo_combine_86 : decode prog_13_method_26_code 86 = .ok (.ldc2_w 110, 3) := by decide +kernel
theorem d_Mo_combine_89 : decode prog_13_method_26_code 89 = .ok (.lload 5, 2) := by decide +kernel
theorem d_Mo_combine_91 : decode prog_13_method_26_code 91 = .ok (.lload 9, 2) := by decide +kernel
theorem d_Mo_combine_93 : decode prog_13_method_26_code 93 = .ok (.lsub, 1) := by decide +kernel
theorem d_Mo_combine_94 : decode prog_13_method_26_code 94 = .ok (.invokevirtual 183, 3) := by decide +kernel
theorem d_Mo_combine_97 : decode prog_13_method_26_code 97 = .ok (.goto 39, 3) := by decide +kernel
theorem d_Mo_combine_100 : decode prog_13_method_26_code 100 = .ok (.iload_n 2, 1) := by decide +kernel
theorem d_Mo_combine_101 : decode prog_13_method_26_code 101 = .ok (.ifCond .ne 26, 3) := by decide +kernel
theorem d_Mo_combine_104 : decode prog_13_method_26_code 104 = .ok (.lload 7, 2) := by decide +kernel
theorem d_Mo_combine_106 : decode prog_13_method_26_code 106 = .ok (.ldc2_w 110, 3) := by decide +kernel
theorem d_Mo_combine_109 : decode prog_13_method_26_code 109 = .ok (.lcmp, 1) := by decide +kernel
theorem d_Mo_combine_110 : decode prog_13_method_26_code 110 = .ok (.ifCond .ne 17, 3) := by decide +kernel
theorem d_Mo_combine_113 : decode prog_13_method_26_code 113 = .ok (.aload_n 0, 1) := by decide +kernel
theorem d_Mo_combine_114 : decode prog_13_method_26_code 114 = .ok (.iload_n 1, 1) := by decide +kernel
theorem d_Mo_combine_115 : decode prog_13_method_26_code 115 = .ok (.lload_n 3, 1) := by decide +kernel
theorem d_Mo_combine_116 : decode prog_13_method_26_code 116 = .ok (.lload 5, 2) := by decide +kernel
theorem d_Mo_combine_118 : decode prog_13_method_26_code 118 = .ok (.lload 9, 2) := by decide +kernel
theorem d_Mo_combine_120 : decode prog_13_method_26_code 120 = .ok (.lsub, 1) := by decide +kernel
theorem d_Mo_combine_121 : decode prog_13_method_26_code 121 = .ok (.invokevirtual 183, 3) := by decide +kernel
theorem d_Mo_combine_124 : decode prog_13_method_26_code 124 = .ok (.goto 12, 3) := by decide +kernel
theorem d_Mo_combine_127 : decode prog_13_method_26_code 127 = .ok (.aload_n 0, 1) := by decide +kernel
theorem d_Mo_combine_128 : decode prog_13_method_26_code 128 = .ok (.iload_n 1, 1) := by decide +kernel
theorem d_Mo_combine_129 : decode prog_13_method_26_code 129 = .ok (.ldc2_w 187, 3) := by decide +kernel
theorem d_Mo_combine_132 : decode prog_13_method_26_code 132 = .ok (.lconst 0, 1) := by decide +kernel
theorem d_Mo_combine_133 : decode prog_13_method_26_code 133 = .ok (.invokevirtual 183, 3) := by decide +kernel
theorem d_Mo_combine_136 : decode prog_13_method_26_code 136 = .ok (.return_, 1) := by decide +kernel
theorem d_Mo_accepted_0 : decode prog_13_method_36_code 0 = .ok (.iload_n 1, 1) := by decide +kernel
theorem d_Mo_accepted_1 : decode prog_13_method_36_code 1 = .ok (.i2l, 1) := by decide +kernel
theorem d_Mo_accepted_2 : decode prog_13_method_36_code 2 = .ok (.lconst 0, 1) := by decide +kernel
theorem d_Mo_accepted_3 : decode prog_13_method_36_code 3 = .ok (.ldc2_w 84, 3) := by decide +kernel
theorem d_Mo_accepted_6 : decode prog_13_method_36_code 6 = .ok (.invokestatic 86, 3) := by decide +kernel
theorem d_Mo_accepted_9 : decode prog_13_method_36_code 9 = .ok (.ifCond .eq 32, 3) := by decide +kernel
theorem d_Mo_accepted_12 : decode prog_13_method_36_code 12 = .ok (.aload_n 0, 1) := by decide +kernel
theorem d_Mo_accepted_13 : decode prog_13_method_36_code 13 = .ok (.getfield 19, 3) := by decide +kernel
theorem d_Mo_accepted_16 : decode prog_13_method_36_code 16 = .ok (.iload_n 1, 1) := by decide +kernel
theorem d_Mo_accepted_17 : decode prog_13_method_36_code 17 = .ok (.i2l, 1) := by decide +kernel
theorem d_Mo_accepted_18 : decode prog_13_method_36_code 18 = .ok (.lconst 0, 1) := by decide +kernel
theorem d_Mo_accepted_19 : decode prog_13_method_36_code 19 = .ok (.ldc2_w 84, 3) := by decide +kernel
theorem d_Mo_accepted_22 : decode prog_13_method_36_code 22 = .ok (.invokestatic 86, 3) := by decide +kernel
theorem d_Mo_accepted_25 : decode prog_13_method_36_code 25 = .ok (.ifCond .eq 7, 3) := by decide +kernel
theorem d_Mo_accepted_28 : decode prog_13_method_36_code 28 = .ok (.iload_n 1, 1) := by decide +kernel
theorem d_Mo_accepted_29 : decode prog_13_method_36_code 29 = .ok (.goto 4, 3) := by decide +kernel
theorem d_Mo_accepted_32 : decode prog_13_method_36_code 32 = .ok (.iconst 0, 1) := by decide +kernel
theorem d_Mo_accepted_33 : decode prog_13_method_36_code 33 = .ok (.baload, 1) := by decide +kernel
theorem d_Mo_accepted_34 : decode prog_13_method_36_code 34 = .ok (.ifCond .eq 7, 3) := by decide +kernel
theorem d_Mo_accepted_37 : decode prog_13_method_36_code 37 = .ok (.iconst 1, 1) := by decide +kernel
theorem d_Mo_accepted_38 : decode prog_13_method_36_code 38 = .ok (.goto 4, 3) := by decide +kernel
theorem d_Mo_accepted_41 : decode prog_13_method_36_code 41 = .ok (.iconst 0, 1) := by decide +kernel
theorem d_Mo_accepted_42 : decode prog_13_method_36_code 42 = .ok (.ireturn, 1) := by decide +kernel
theorem d_Mo_bound_0 : decode prog_13_method_37_code 0 = .ok (.iload_n 3, 1) := by decide +kernel
theorem d_Mo_bound_1 : decode prog_13_method_37_code 1 = .ok (.i2l, 1) := by decide +kernel
theorem d_Mo_bound_2 : decode prog_13_method_37_code 2 = .ok (.ldc2_w 222, 3) := by decide +kernel
theorem d_Mo_bound_5 : decode prog_13_method_37_code 5 = .ok (.ldc2_w 224, 3) := by decide +kernel
theorem d_Mo_bound_8 : decode prog_13_method_37_code 8 = .ok (.invokestatic 86, 3) := by decide +kernel
theorem d_Mo_bound_11 : decode prog_13_method_37_code 11 = .ok (.ifCond .eq 37, 3) := by decide +kernel
theorem d_Mo_bound_14 : decode prog_13_method_37_code 14 = .ok (.iload 4, 2) := by decide +kernel
theorem d_Mo_bound_16 : decode prog_13_method_37_code 16 = .ok (.i2l, 1) := by decide +kernel
theorem d_Mo_bound_17 : decode prog_13_method_37_code 17 = .ok (.ldc2_w 222, 3) := by decide +kernel
theorem d_Mo_bound_20 : decode prog_13_method_37_code 20 = .ok (.ldc2_w 224, 3) := by decide +kernel
theorem d_Mo_bound_23 : decode prog_13_method_37_code 23 = .ok (.invokestatic 86, 3) := by decide +kernel
theorem d_Mo_bound_26 : decode prog_13_method_37_code 26 = .ok (.ifCond .eq 22, 3) := by decide +kernel
theorem d_Mo_bound_29 : decode prog_13_method_37_code 29 = .ok (.iload 5, 2) := by decide +kernel
theorem d_Mo_bound_31 : decode prog_13_method_37_code 31 = .ok (.i2l, 1) := by decide +kernel
theorem d_Mo_bound_32 : decode prog_13_method_37_code 32 = .ok (.ldc2_w 222, 3) := by decide +kernel
theorem d_Mo_bound_35 : decode prog_13_method_37_code 35 = .ok (.ldc2_w 224, 3) := by decide +kernel
theorem d_Mo_bound_38 : decode prog_13_method_37_code 38 = .ok (.invokestatic 86, 3) := by decide +kernel
theorem d_Mo_bound_41 : decode prog_13_method_37_code 41 = .ok (.ifCond .eq 7, 3) := by decide +kernel
theorem d_Mo_bound_44 : decode prog_13_method_37_code 44 = .ok (.iconst 1, 1) := by decide +kernel
theorem d_Mo_bound_45 : decode prog_13_method_37_code 45 = .ok (.goto 4, 3) := by decide +kernel
theorem d_Mo_bound_48 : decode prog_13_method_37_code 48 = .ok (.iconst 0, 1) := by decide +kernel
theorem d_Mo_bound_49 : decode prog_13_method_37_code 49 = .ok (.istore 6, 2) := by decide +kernel
theorem d_Mo_bound_51 : decode prog_13_method_37_code 51 = .ok (.aload_n 0, 1) := by decide +kernel
theorem d_Mo_bound_52 : decode prog_13_method_37_code 52 = .ok (.iload_n 1, 1) := by decide +kernel
theorem d_Mo_bound_53 : decode prog_13_method_37_code 53 = .ok (.invokevirtual 226, 3) := by decide +kernel
theorem d_Mo_bound_56 : decode prog_13_method_37_code 56 = .ok (.ifCond .eq 18, 3) := by decide +kernel
theorem d_Mo_bound_59 : decode prog_13_method_37_code 59 = .ok (.iload_n 2, 1) := by decide +kernel
theorem d_Mo_bound_60 : decode prog_13_method_37_code 60 = .ok (.i2l, 1) := by decide +kernel
theorem d_Mo_bound_61 : decode prog_13_method_37_code 61 = .ok (.lconst 0, 1) := by decide +kernel
theorem d_Mo_bound_62 : decode prog_13_method_37_code 62 = .ok (.lconst 1, 1) := by decide +kernel
theorem d_Mo_bound_63 : decode prog_13_method_37_code 63 = .ok (.invokestatic 86, 3) := by decide +kernel
theorem d_Mo_bound_66 : decode prog_13_method_37_code 66 = .ok (.ifCond .eq 8, 3) := by decide +kernel
theorem d_Mo_bound_69 : decode prog_13_method_37_code 69 = .ok (.iload 6, 2) := by decide +kernel
theorem d_Mo_bound_71 : decode prog_13_method_37_code 71 = .ok (.ifCond .ne 7, 3) := by decide +kernel
theorem d_Mo_bound_74 : decode prog_13_method_37_code 74 = .ok (.ldc2_w 187, 3) := by decide +kernel
theorem d_Mo_bound_77 : decode prog_13_method_37_code 77 = .ok (.lreturn, 1) := by decide +kernel
theorem d_Mo_bound_78 : decode prog_13_method_37_code 78 = .ok (.aload_n 0, 1) := by decide +kernel
theorem d_Mo_bound_79 : decode prog_13_method_37_code 79 = .ok (.iload_n 1, 1) := by decide +kernel
theorem d_Mo_bound_80 : decode prog_13_method_37_code 80 = .ok (.iconst 0, 1) := by decide +kernel
theorem d_Mo_bound_81 : decode prog_13_method_37_code 81 = .ok (.invokevirtual 106, 3) := by decide +kernel
theorem d_Mo_bound_84 : decode prog_13_method_37_code 84 = .ok (.istore 7, 2) := by decide +kernel
theorem d_Mo_bound_86 : decode prog_13_method_37_code 86 = .ok (.bipush 6, 2) := by decide +kernel
theorem d_Mo_bound_88 : decode prog_13_method_37_code 88 = .ok (.iload 7, 2) := by decide +kernel
theorem d_Mo_bound_90 : decode prog_13_method_37_code 90 = .ok (.imul, 1) := by decide +kernel
theorem d_Mo_bound_91 : decode prog_13_method_37_code 91 = .ok (.istore 8, 2) := by decide +kernel
theorem d_Mo_bound_93 : decode prog_13_method_37_code 93 = .ok (.iload 8, 2) := by decide +kernel
theorem d_Mo_bound_95 : decode prog_13_method_37_code 95 = .ok (.bipush 6, 2) := by decide +kernel
theorem d_Mo_bound_97 : decode prog_13_method_37_code 97 = .ok (.iload 7, 2) := by decide +kernel
theorem d_Mo_bound_99 : decode prog_13_method_37_code 99 = .ok (.imul, 1) := by decide +kernel
theorem d_Mo_bound_100 : decode prog_13_method_37_code 100 = .ok (.aload_n 0, 1) := by decide +kernel
theorem d_Mo_bound_101 : decode prog_13_method_37_code 101 = .ok (.getfield 29, 3) := by decide +kernel
theorem d_Mo_bound_104 : decode prog_13_method_37_code 104 = .ok (.iload 7, 2) := by decide +kernel
theorem d_Mo_bound_106 : decode prog_13_method_37_code 106 = .ok (.iaload, 1) := by decide +kernel
theorem d_Mo_bound_107 : decode prog_13_method_37_code 107 = .ok (.iadd, 1) := by decide +kernel
theorem d_Mo_bound_108 : decode prog_13_method_37_code 108 = .ok (.if_icmp .ge 60, 3) := by decide +kernel
theorem d_Mo_bound_111 : decode prog_13_method_37_code 111 = .ok (.aload_n 0, 1) := by decide +kernel
theorem d_Mo_bound_112 : decode prog_13_method_37_code 112 = .ok (.getfield 32, 3) := by decide +kernel
theorem d_Mo_bound_115 : decode prog_13_method_37_code 115 = .ok (.iload 8, 2) := by decide +kernel
theorem d_Mo_bound_117 : decode prog_13_method_37_code 117 = .ok (.iaload, 1) := by decide +kernel
theorem d_Mo_bound_118 : decode prog_13_method_37_code 118 = .ok (.iload_n 3, 1) := by decide +kernel
theorem d_Mo_bound_119 : decode prog_13_method_37_code 119 = .ok (.iload 4, 2) := by decide +kernel
theorem d_Mo_bound_121 : decode prog_13_method_37_code 121 = .ok (.iload 5, 2) := by decide +kernel
theorem d_Mo_bound_123 : decode prog_13_method_37_code 123 = .ok (.invokestatic 228, 3) := by decide +kernel
theorem d_Mo_bound_126 : decode prog_13_method_37_code 126 = .ok (.aload_n 0, 1) := by decide +kernel
theorem d_Mo_bound_127 : decode prog_13_method_37_code 127 = .ok (.getfield 35, 3) := by decide +kernel
theorem d_Mo_bound_130 : decode prog_13_method_37_code 130 = .ok (.iload 8, 2) := by decide +kernel
theorem d_Mo_bound_132 : decode prog_13_method_37_code 132 = .ok (.iaload, 1) := by decide +kernel
theorem d_Mo_bound_133 : decode prog_13_method_37_code 133 = .ok (.iload_n 3, 1) := by decide +kernel
theorem d_Mo_bound_134 : decode prog_13_method_37_code 134 = .ok (.iload 4, 2) := by decide +kernel
theorem d_Mo_bound_136 : decode prog_13_method_37_code 136 = .ok (.iload 5, 2) := by decide +kernel
theorem d_Mo_bound_138 : decode prog_13_method_37_code 138 = .ok (.invokestatic 228, 3) := by decide +kernel
theorem d_Mo_bound_141 : decode prog_13_method_37_code 141 = .ok (.lsub, 1) := by decide +kernel
theorem d_Mo_bound_142 : decode prog_13_method_37_code 142 = .ok (.lstore 9, 2) := by decide +kernel
theorem d_Mo_bound_144 : decode prog_13_method_37_code 144 = .ok (.lload 9, 2) := by decide +kernel
theorem d_Mo_bound_146 : decode prog_13_method_37_code 146 = .ok (.aload_n 0, 1) := by decide +kernel
theorem d_Mo_bound_147 : decode prog_13_method_37_code 147 = .ok (.getfield 38, 3) := by decide +kernel
theorem d_Mo_bound_150 : decode prog_13_method_37_code 150 = .ok (.iload 8, 2) := by decide +kernel
theorem d_Mo_bound_152 : decode prog_13_method_37_code 152 = .ok (.iaload, 1) := by decide +kernel
theorem d_Mo_bound_153 : decode prog_13_method_37_code 153 = .ok (.i2l, 1) := by decide +kernel
theorem d_Mo_bound_154 : decode prog_13_method_37_code 154 = .ok (.lcmp, 1) := by decide +kernel
theorem d_Mo_bound_155 : decode prog_13_method_37_code 155 = .ok (.ifCond .le 7, 3) := by decide +kernel
theorem d_Mo_bound_158 : decode prog_13_method_37_code 158 = .ok (.ldc2_w 187, 3) := by decide +kernel
theorem d_Mo_bound_161 : decode prog_13_method_37_code 161 = .ok (.lreturn, 1) := by decide +kernel
theorem d_Mo_bound_162 : decode prog_13_method_37_code 162 = .ok (.iinc 8 1, 3) := by decide +kernel
theorem d_Mo_bound_165 : decode prog_13_method_37_code 165 = .ok (.goto (-72), 3) := by decide +kernel
theorem d_Mo_bound_168 : decode prog_13_method_37_code 168 = .ok (.iconst 2, 1) := by decide +kernel
theorem d_Mo_bound_169 : decode prog_13_method_37_code 169 = .ok (.iload 7, 2) := by decide +kernel
theorem d_Mo_bound_171 : decode prog_13_method_37_code 171 = .ok (.imul, 1) := by decide +kernel
theorem d_Mo_bound_172 : decode prog_13_method_37_code 172 = .ok (.iload_n 2, 1) := by decide +kernel
theorem d_Mo_bound_173 : decode prog_13_method_37_code 173 = .ok (.iadd, 1) := by decide +kernel
theorem d_Mo_bound_174 : decode prog_13_method_37_code 174 = .ok (.istore 8, 2) := by decide +kernel
theorem d_Mo_bound_176 : decode prog_13_method_37_code 176 = .ok (.aload_n 0, 1) := by decide +kernel
theorem d_Mo_bound_177 : decode prog_13_method_37_code 177 = .ok (.getfield 41, 3) := by decide +kernel
theorem d_Mo_bound_180 : decode prog_13_method_37_code 180 = .ok (.iload 8, 2) := by decide +kernel
theorem d_Mo_bound_182 : decode prog_13_method_37_code 182 = .ok (.iaload, 1) := by decide +kernel
theorem d_Mo_bound_183 : decode prog_13_method_37_code 183 = .ok (.i2l, 1) := by decide +kernel
theorem d_Mo_bound_184 : decode prog_13_method_37_code 184 = .ok (.lstore 9, 2) := by decide +kernel
theorem d_Mo_bound_186 : decode prog_13_method_37_code 186 = .ok (.iconst 3, 1) := by decide +kernel
theorem d_Mo_bound_187 : decode prog_13_method_37_code 187 = .ok (.iload 8, 2) := by decide +kernel
theorem d_Mo_bound_189 : decode prog_13_method_37_code 189 = .ok (.imul, 1) := by decide +kernel
theorem d_Mo_bound_190 : decode prog_13_method_37_code 190 = .ok (.istore 11, 2) := by decide +kernel
theorem d_Mo_bound_192 : decode prog_13_method_37_code 192 = .ok (.iload 11, 2) := by decide +kernel
theorem d_Mo_bound_194 : decode prog_13_method_37_code 194 = .ok (.iconst 3, 1) := by decide +kernel
theorem d_Mo_bound_195 : decode prog_13_method_37_code 195 = .ok (.iload 8, 2) := by decide +kernel
theorem d_Mo_bound_197 : decode prog_13_method_37_code 197 = .ok (.imul, 1) := by decide +kernel
theorem d_Mo_bound_198 : decode prog_13_method_37_code 198 = .ok (.aload_n 0, 1) := by decide +kernel
theorem d_Mo_bound_199 : decode prog_13_method_37_code 199 = .ok (.getfield 44, 3) := by decide +kernel
theorem d_Mo_bound_202 : decode prog_13_method_37_code 202 = .ok (.iload 8, 2) := by decide +kernel
theorem d_Mo_bound_204 : decode prog_13_method_37_code 204 = .ok (.iaload, 1) := by decide +kernel
theorem d_Mo_bound_205 : decode prog_13_method_37_code 205 = .ok (.iadd, 1) := by decide +kernel
theorem d_Mo_bound_206 : decode prog_13_method_37_code 206 = .ok (.if_icmp .ge 54, 3) := by decide +kernel
theorem d_Mo_bound_209 : decode prog_13_method_37_code 209 = .ok (.lload 9, 2) := by decide +kernel
theorem d_Mo_bound_211 : decode prog_13_method_37_code 211 = .ok (.aload_n 0, 1) := by decide +kernel
theorem d_Mo_bound_212 : decode prog_13_method_37_code 212 = .ok (.getfield 47, 3) := by decide +kernel
theorem d_Mo_bound_215 : decode prog_13_method_37_code 215 = .ok (.iload 11, 2) := by decide +kernel
theorem d_Mo_bound_217 : decode prog_13_method_37_code 217 = .ok (.iaload, 1) := by decide +kernel
theorem d_Mo_bound_218 : decode prog_13_method_37_code 218 = .ok (.i2l, 1) := by decide +kernel
theorem d_Mo_bound_219 : decode prog_13_method_37_code 219 = .ok (.aload_n 0, 1) := by decide +kernel
theorem d_Mo_bound_220 : decode prog_13_method_37_code 220 = .ok (.getfield 50, 3) := by decide +kernel
theorem d_Mo_bound_223 : decode prog_13_method_37_code 223 = .ok (.iload 11, 2) := by decide +kernel
theorem d_Mo_bound_225 : decode prog_13_method_37_code 225 = .ok (.iaload, 1) := by decide +kernel
theorem d_Mo_bound_226 : decode prog_13_method_37_code 226 = .ok (.iload_n 3, 1) := by decide +kernel
theorem d_Mo_bound_227 : decode prog_13_method_37_code 227 = .ok (.iload 4, 2) := by decide +kernel
theorem d_Mo_bound_229 : decode prog_13_method_37_code 229 = .ok (.iload 5, 2) := by decide +kernel
theorem d_Mo_bound_231 : decode prog_13_method_37_code 231 = .ok (.invokestatic 228, 3) := by decide +kernel
theorem d_Mo_bound_234 : decode prog_13_method_37_code 234 = .ok (.aload_n 0, 1) := by decide +kernel
theorem d_Mo_bound_235 : decode prog_13_method_37_code 235 = .ok (.getfield 53, 3) := by decide +kernel
theorem d_Mo_bound_238 : decode prog_13_method_37_code 238 = .ok (.iload 11, 2) := by decide +kernel
theorem d_Mo_bound_240 : decode prog_13_method_37_code 240 = .ok (.iaload, 1) := by decide +kernel
theorem d_Mo_bound_241 : decode prog_13_method_37_code 241 = .ok (.iload_n 3, 1) := by decide +kernel
theorem d_Mo_bound_242 : decode prog_13_method_37_code 242 = .ok (.iload 4, 2) := by decide +kernel
theorem d_Mo_bound_244 : decode prog_13_method_37_code 244 = .ok (.iload 5, 2) := by decide +kernel
theorem d_Mo_bound_246 : decode prog_13_method_37_code 246 = .ok (.invokestatic 228, 3) := by decide +kernel
theorem d_Mo_bound_249 : decode prog_13_method_37_code 249 = .ok (.lsub, 1) := by decide +kernel
theorem d_Mo_bound_250 : decode prog_13_method_37_code 250 = .ok (.lmul, 1) := by decide +kernel
theorem d_Mo_bound_251 : decode prog_13_method_37_code 251 = .ok (.ladd, 1) := by decide +kernel
theorem d_Mo_bound_252 : decode prog_13_method_37_code 252 = .ok (.lstore 9, 2) := by decide +kernel
theorem d_Mo_bound_254 : decode prog_13_method_37_code 254 = .ok (.iinc 11 1, 3) := by decide +kernel
theorem d_Mo_bound_257 : decode prog_13_method_37_code 257 = .ok (.goto (-65), 3) := by decide +kernel
theorem d_Mo_bound_260 : decode prog_13_method_37_code 260 = .ok (.lload 9, 2) := by decide +kernel
theorem d_Mo_bound_262 : decode prog_13_method_37_code 262 = .ok (.lreturn, 1) := by decide +kernel
theorem d_Mo_argument_0 : decode prog_13_method_38_code 0 = .ok (.iload_n 0, 1) := by decide +kernel
theorem d_Mo_argument_1 : decode prog_13_method_38_code 1 = .ok (.ifCond .ne 8, 3) := by decide +kernel
theorem d_Mo_argument_4 : decode prog_13_method_38_code 4 = .ok (.iload_n 1, 1) := by decide +kernel
theorem d_Mo_argument_5 : decode prog_13_method_38_code 5 = .ok (.i2l, 1) := by decide +kernel
theorem d_Mo_argument_6 : decode prog_13_method_38_code 6 = .ok (.goto 24, 3) := by decide +kernel
theorem d_Mo_argument_9 : decode prog_13_method_38_code 9 = .ok (.iload_n 0, 1) := by decide +kernel
theorem d_Mo_argument_10 : decode prog_13_method_38_code 10 = .ok (.iconst 1, 1) := by decide +kernel
theorem d_Mo_argument_11 : decode prog_13_method_38_code 11 = .ok (.if_icmp .ne 8, 3) := by decide +kernel
theorem d_Mo_argument_14 : decode prog_13_method_38_code 14 = .ok (.iload_n 2, 1) := by decide +kernel
theorem d_Mo_argument_15 : decode prog_13_method_38_code 15 = .ok (.i2l, 1) := by decide +kernel
theorem d_Mo_argument_16 : decode prog_13_method_38_code 16 = .ok (.goto 14, 3) := by decide +kernel
theorem d_Mo_argument_19 : decode prog_13_method_38_code 19 = .ok (.iload_n 0, 1) := by decide +kernel
theorem d_Mo_argument_20 : decode prog_13_method_38_code 20 = .ok (.iconst 2, 1) := by decide +kernel
theorem d_Mo_argument_21 : decode prog_13_method_38_code 21 = .ok (.if_icmp .ne 8, 3) := by decide +kernel
theorem d_Mo_argument_24 : decode prog_13_method_38_code 24 = .ok (.iload_n 3, 1) := by decide +kernel
theorem d_Mo_argument_25 : decode prog_13_method_38_code 25 = .ok (.i2l, 1) := by decide +kernel
theorem d_Mo_argument_26 : decode prog_13_method_38_code 26 = .ok (.goto 4, 3) := by decide +kernel
theorem d_Mo_argument_29 : decode prog_13_method_38_code 29 = .ok (.lconst 0, 1) := by decide +kernel
theorem d_Mo_argument_30 : decode prog_13_method_38_code 30 = .ok (.lreturn, 1) := by decide +kernel
theorem d_Mo_depth_0 : decode prog_13_method_39_code 0 = .ok (.iload_n 1, 1) := by decide +kernel
theorem d_Mo_depth_1 : decode prog_13_method_39_code 1 = .ok (.i2l, 1) := by decide +kernel
theorem d_Mo_depth_2 : decode prog_13_method_39_code 2 = .ok (.lconst 0, 1) := by decide +kernel
theorem d_Mo_depth_3 : decode prog_13_method_39_code 3 = .ok (.ldc2_w 84, 3) := by decide +kernel
theorem d_Mo_depth_6 : decode prog_13_method_39_code 6 = .ok (.invokestatic 86, 3) := by decide +kernel
theorem d_Mo_depth_9 : decode prog_13_method_39_code 9 = .ok (.ifCond .ne 5, 3) := by decide +kernel
theorem d_Mo_depth_12 : decode prog_13_method_39_code 12 = .ok (.iconst (-1), 1) := by decide +kernel
theorem d_Mo_depth_13 : decode prog_13_method_39_code 13 = .ok (.ireturn, 1) := by decide +kernel
theorem d_Mo_depth_14 : decode prog_13_method_39_code 14 = .ok (.aload_n 0, 1) := by decide +kernel
theorem d_Mo_depth_15 : decode prog_13_method_39_code 15 = .ok (.getfield 7, 3) := by decide +kernel
theorem d_Mo_depth_18 : decode prog_13_method_39_code 18 = .ok (.iconst 0, 1) := by decide +kernel
theorem d_Mo_depth_19 : decode prog_13_method_39_code 19 = .ok (.iaload, 1) := by decide +kernel
theorem d_Mo_depth_20 : decode prog_13_method_39_code 20 = .ok (.ifCond .ne 7, 3) := by decide +kernel
theorem d_Mo_depth_23 : decode prog_13_method_39_code 23 = .ok (.iconst 0, 1) := by decide +kernel
theorem d_Mo_depth_24 : decode prog_13_method_39_code 24 = .ok (.goto 4, 3) := by decide +kernel
theorem d_Mo_depth_27 : decode prog_13_method_39_code 27 = .ok (.iconst 1, 1) := by decide +kernel
theorem d_Mo_depth_28 : decode prog_13_method_39_code 28 = .ok (.istore_n 2, 1) := by decide +kernel
theorem d_Mo_depth_29 : decode prog_13_method_39_code 29 = .ok (.aload_n 0, 1) := by decide +kernel
theorem d_Mo_depth_30 : decode prog_13_method_39_code 30 = .ok (.getfield 7, 3) := by decide +kernel
theorem d_Mo_depth_33 : decode prog_13_method_39_code 33 = .ok (.iconst 1, 1) := by decide +kernel
theorem d_Mo_depth_34 : decode prog_13_method_39_code 34 = .ok (.iaload, 1) := by decide +kernel
theorem d_Mo_depth_35 : decode prog_13_method_39_code 35 = .ok (.ifCond .ne 7, 3) := by decide +kernel
theorem d_Mo_depth_38 : decode prog_13_method_39_code 38 = .ok (.iconst 0, 1) := by decide +kernel
theorem d_Mo_depth_39 : decode prog_13_method_39_code 39 = .ok (.goto 19, 3) := by decide +kernel
theorem d_Mo_depth_42 : decode prog_13_method_39_code 42 = .ok (.iconst 1, 1) := by decide +kernel
theorem d_Mo_depth_43 : decode prog_13_method_39_code 43 = .ok (.aload_n 0, 1) := by decide +kernel
theorem d_Mo_depth_44 : decode prog_13_method_39_code 44 = .ok (.iconst 1, 1) := by decide +kernel
theorem d_Mo_depth_45 : decode prog_13_method_39_code 45 = .ok (.iconst 0, 1) := by decide +kernel
theorem d_Mo_depth_46 : decode prog_13_method_39_code 46 = .ok (.invokevirtual 232, 3) := by decide +kernel
theorem d_Mo_depth_49 : decode prog_13_method_39_code 49 = .ok (.ifCond .eq 7, 3) := by decide +kernel
theorem d_Mo_depth_52 : decode prog_13_method_39_code 52 = .ok (.iload_n 2, 1) := by decide +kernel
theorem d_Mo_depth_53 : decode prog_13_method_39_code 53 = .ok (.goto 4, 3) := by decide +kernel
theorem d_Mo_depth_56 : decode prog_13_method_39_code 56 = .ok (.iconst 0, 1) := by decide +kernel
theorem d_Mo_depth_57 : decode prog_13_method_39_code 57 = .ok (.iadd, 1) := by decide +kernel
theorem d_Mo_depth_58 : decode prog_13_method_39_code 58 = .ok (.istore_n 3, 1) := by decide +kernel
theorem d_Mo_depth_59 : decode prog_13_method_39_code 59 = .ok (.aload_n 0, 1) := by decide +kernel
theorem d_Mo_depth_60 : decode prog_13_method_39_code 60 = .ok (.getfield 7, 3) := by decide +kernel
theorem d_Mo_depth_63 : decode prog_13_method_39_code 63 = .ok (.iconst 2, 1) := by decide +kernel
theorem d_Mo_depth_64 : decode prog_13_method_39_code 64 = .ok (.iaload, 1) := by decide +kernel
theorem d_Mo_depth_65 : decode prog_13_method_39_code 65 = .ok (.ifCond .ne 7, 3) := by decide +kernel
theorem d_Mo_depth_68 : decode prog_13_method_39_code 68 = .ok (.iconst 0, 1) := by decide +kernel
theorem d_Mo_depth_69 : decode prog_13_method_39_code 69 = .ok (.goto 36, 3) := by decide +kernel
theorem d_Mo_depth_72 : decode prog_13_method_39_code 72 = .ok (.iconst 1, 1) := by decide +kernel
theorem d_Mo_depth_73 : decode prog_13_method_39_code 73 = .ok (.aload_n 0, 1) := by decide +kernel
theorem d_Mo_depth_74 : decode prog_13_method_39_code 74 = .ok (.iconst 2, 1) := by decide +kernel
theorem d_Mo_depth_75 : decode prog_13_method_39_code 75 = .ok (.iconst 0, 1) := by decide +kernel
theorem d_Mo_depth_76 : decode prog_13_method_39_code 76 = .ok (.invokevirtual 232, 3) := by decide +kernel
theorem d_Mo_depth_79 : decode prog_13_method_39_code 79 = .ok (.ifCond .eq 7, 3) := by decide +kernel
theorem d_Mo_depth_82 : decode prog_13_method_39_code 82 = .ok (.iload_n 2, 1) := by decide +kernel
theorem d_Mo_depth_83 : decode prog_13_method_39_code 83 = .ok (.goto 4, 3) := by decide +kernel
theorem d_Mo_depth_86 : decode prog_13_method_39_code 86 = .ok (.iconst 0, 1) := by decide +kernel
theorem d_Mo_depth_87 : decode prog_13_method_39_code 87 = .ok (.aload_n 0, 1) := by decide +kernel
theorem d_Mo_depth_88 : decode prog_13_method_39_code 88 = .ok (.iconst 2, 1) := by decide +kernel
theorem d_Mo_depth_89 : decode prog_13_method_39_code 89 = .ok (.iconst 1, 1) := by decide +kernel
theorem d_Mo_depth_90 : decode prog_13_method_39_code 90 = .ok (.invokevirtual 232, 3) := by decide +kernel
theorem d_Mo_depth_93 : decode prog_13_method_39_code 93 = .ok (.ifCond .eq 7, 3) := by decide +kernel
theorem d_Mo_depth_96 : decode prog_13_method_39_code 96 = .ok (.iload_n 3, 1) := by decide +kernel
theorem d_Mo_depth_97 : decode prog_13_method_39_code 97 = .ok (.goto 4, 3) := by decide +kernel
theorem d_Mo_depth_100 : decode prog_13_method_39_code 100 = .ok (.iconst 0, 1) := by decide +kernel
theorem d_Mo_depth_101 : decode prog_13_method_39_code 101 = .ok (.invokestatic 235, 3) := by decide +kernel
theorem d_Mo_depth_104 : decode prog_13_method_39_code 104 = .ok (.iadd, 1) := by decide +kernel
theorem d_Mo_depth_105 : decode prog_13_method_39_code 105 = .ok (.istore 4, 2) := by decide +kernel
theorem d_Mo_depth_107 : decode prog_13_method_39_code 107 = .ok (.aload_n 0, 1) := by decide +kernel
theorem d_Mo_depth_108 : decode prog_13_method_39_code 108 = .ok (.iconst 3, 1) := by decide +kernel
theorem d_Mo_depth_109 : decode prog_13_method_39_code 109 = .ok (.iconst 0, 1) := by decide +kernel
theorem d_Mo_depth_110 : decode prog_13_method_39_code 110 = .ok (.invokevirtual 232, 3) := by decide +kernel
theorem d_Mo_depth_113 : decode prog_13_method_39_code 113 = .ok (.ifCond .eq 7, 3) := by decide +kernel
theorem d_Mo_depth_116 : decode prog_13_method_39_code 116 = .ok (.iload_n 2, 1) := by decide +kernel
theorem d_Mo_depth_117 : decode prog_13_method_39_code 117 = .ok (.goto 4, 3) := by decide +kernel
theorem d_Mo_depth_120 : decode prog_13_method_39_code 120 = .ok (.iconst 0, 1) := by decide +kernel
theorem d_Mo_depth_121 : decode prog_13_method_39_code 121 = .ok (.aload_n 0, 1) := by decide +kernel
theorem d_Mo_depth_122 : decode prog_13_method_39_code 122 = .ok (.iconst 3, 1) := by decide +kernel
theorem d_Mo_depth_123 : decode prog_13_method_39_code 123 = .ok (.iconst 1, 1) := by decide +kernel
theorem d_Mo_depth_124 : decode prog_13_method_39_code 124 = .ok (.invokevirtual 232, 3) := by decide +kernel
theorem d_Mo_depth_127 : decode prog_13_method_39_code 127 = .ok (.ifCond .eq 7, 3) := by decide +kernel
theorem d_Mo_depth_130 : decode prog_13_method_39_code 130 = .ok (.iload_n 3, 1) := by decide +kernel
theorem d_Mo_depth_131 : decode prog_13_method_39_code 131 = .ok (.goto 4, 3) := by decide +kernel
theorem d_Mo_depth_134 : decode prog_13_method_39_code 134 = .ok (.iconst 0, 1) := by decide +kernel
theorem d_Mo_depth_135 : decode prog_13_method_39_code 135 = .ok (.invokestatic 235, 3) := by decide +kernel
theorem d_Mo_depth_138 : decode prog_13_method_39_code 138 = .ok (.aload_n 0, 1) := by decide +kernel
theorem d_Mo_depth_139 : decode prog_13_method_39_code 139 = .ok (.iconst 3, 1) := by decide +kernel
theorem d_Mo_depth_140 : decode prog_13_method_39_code 140 = .ok (.iconst 2, 1) := by decide +kernel
theorem d_Mo_depth_141 : decode prog_13_method_39_code 141 = .ok (.invokevirtual 232, 3) := by decide +kernel
theorem d_Mo_depth_144 : decode prog_13_method_39_code 144 = .ok (.ifCond .eq 8, 3) := by decide +kernel
theorem d_Mo_depth_147 : decode prog_13_method_39_code 147 = .ok (.iload 4, 2) := by decide +kernel
theorem d_Mo_depth_149 : decode prog_13_method_39_code 149 = .ok (.goto 4, 3) := by decide +kernel
theorem d_Mo_depth_152 : decode prog_13_method_39_code 152 = .ok (.iconst 0, 1) := by decide +kernel
theorem d_Mo_depth_153 : decode prog_13_method_39_code 153 = .ok (.invokestatic 235, 3) := by decide +kernel
theorem d_Mo_depth_156 : decode prog_13_method_39_code 156 = .ok (.istore 5, 2) := by decide +kernel
theorem d_Mo_depth_158 : decode prog_13_method_39_code 158 = .ok (.aload_n 0, 1) := by decide +kernel
theorem d_Mo_depth_159 : decode prog_13_method_39_code 159 = .ok (.getfield 7, 3) := by decide +kernel
theorem d_Mo_depth_162 : decode prog_13_method_39_code 162 = .ok (.iconst 3, 1) := by decide +kernel
theorem d_Mo_depth_163 : decode prog_13_method_39_code 163 = .ok (.iaload, 1) := by decide +kernel
theorem d_Mo_depth_164 : decode prog_13_method_39_code 164 = .ok (.ifCond .ne 7, 3) := by decide +kernel
theorem d_Mo_depth_167 : decode prog_13_method_39_code 167 = .ok (.iconst 0, 1) := by decide +kernel
theorem d_Mo_depth_168 : decode prog_13_method_39_code 168 = .ok (.goto 7, 3) := by decide +kernel
theorem d_Mo_depth_171 : decode prog_13_method_39_code 171 = .ok (.iconst 1, 1) := by decide +kernel
theorem d_Mo_depth_172 : decode prog_13_method_39_code 172 = .ok (.iload 5, 2) := by decide +kernel
theorem d_Mo_depth_174 : decode prog_13_method_39_code 174 = .ok (.iadd, 1) := by decide +kernel
theorem d_Mo_depth_175 : decode prog_13_method_39_code 175 = .ok (.istore 6, 2) := by decide +kernel
theorem d_Mo_depth_177 : decode prog_13_method_39_code 177 = .ok (.iload_n 1, 1) := by decide +kernel
theorem d_Mo_depth_178 : decode prog_13_method_39_code 178 = .ok (.ifCond .ne 7, 3) := by decide +kernel
theorem d_Mo_depth_181 : decode prog_13_method_39_code 181 = .ok (.iload_n 2, 1) := by decide +kernel
theorem d_Mo_depth_182 : decode prog_13_method_39_code 182 = .ok (.goto 24, 3) := by decide +kernel
theorem d_Mo_depth_185 : decode prog_13_method_39_code 185 = .ok (.iload_n 1, 1) := by decide +kernel
theorem d_Mo_depth_186 : decode prog_13_method_39_code 186 = .ok (.iconst 1, 1) := by decide +kernel
theorem d_Mo_depth_187 : decode prog_13_method_39_code 187 = .ok (.if_icmp .ne 7, 3) := by decide +kernel
theorem d_Mo_depth_190 : decode prog_13_method_39_code 190 = .ok (.iload_n 3, 1) := by decide +kernel
theorem d_Mo_depth_191 : decode prog_13_method_39_code 191 = .ok (.goto 15, 3) := by decide +kernel
theorem d_Mo_depth_194 : decode prog_13_method_39_code 194 = .ok (.iload_n 1, 1) := by decide +kernel
theorem d_Mo_depth_195 : decode prog_13_method_39_code 195 = .ok (.iconst 2, 1) := by decide +kernel
theorem d_Mo_depth_196 : decode prog_13_method_39_code 196 = .ok (.if_icmp .ne 8, 3) := by decide +kernel
theorem d_Mo_depth_199 : decode prog_13_method_39_code 199 = .ok (.iload 4, 2) := by decide +kernel
theorem d_Mo_depth_201 : decode prog_13_method_39_code 201 = .ok (.goto 5, 3) := by decide +kernel
theorem d_Mo_depth_204 : decode prog_13_method_39_code 204 = .ok (.iload 6, 2) := by decide +kernel
theorem d_Mo_depth_206 : decode prog_13_method_39_code 206 = .ok (.ireturn, 1) := by decide +kernel
theorem d_Mo_calls_0 : decode prog_13_method_41_code 0 = .ok (.iconst 0, 1) := by decide +kernel
theorem d_Mo_calls_1 : decode prog_13_method_41_code 1 = .ok (.istore_n 3, 1) := by decide +kernel
theorem d_Mo_calls_2 : decode prog_13_method_41_code 2 = .ok (.iconst 0, 1) := by decide +kernel
theorem d_Mo_calls_3 : decode prog_13_method_41_code 3 = .ok (.istore 4, 2) := by decide +kernel
theorem d_Mo_calls_5 : decode prog_13_method_41_code 5 = .ok (.iload 4, 2) := by decide +kernel
theorem d_Mo_calls_7 : decode prog_13_method_41_code 7 = .ok (.aload_n 0, 1) := by decide +kernel
theorem d_Mo_calls_8 : decode prog_13_method_41_code 8 = .ok (.getfield 7, 3) := by decide +kernel
theorem d_Mo_calls_11 : decode prog_13_method_41_code 11 = .ok (.iload_n 1, 1) := by decide +kernel
theorem d_Mo_calls_12 : decode prog_13_method_41_code 12 = .ok (.iaload, 1) := by decide +kernel
theorem d_Mo_calls_13 : decode prog_13_method_41_code 13 = .ok (.if_icmp .ge 52, 3) := by decide +kernel
theorem d_Mo_calls_16 : decode prog_13_method_41_code 16 = .ok (.iload_n 3, 1) := by decide +kernel
theorem d_Mo_calls_17 : decode prog_13_method_41_code 17 = .ok (.ifCond .ne 36, 3) := by decide +kernel
theorem d_Mo_calls_20 : decode prog_13_method_41_code 20 = .ok (.aload_n 0, 1) := by decide +kernel
theorem d_Mo_calls_21 : decode prog_13_method_41_code 21 = .ok (.getfield 13, 3) := by decide +kernel
theorem d_Mo_calls_24 : decode prog_13_method_41_code 24 = .ok (.bipush 24, 2) := by decide +kernel
theorem d_Mo_calls_26 : decode prog_13_method_41_code 26 = .ok (.iload_n 1, 1) := by decide +kernel
theorem d_Mo_calls_27 : decode prog_13_method_41_code 27 = .ok (.imul, 1) := by decide +kernel
theorem d_Mo_calls_28 : decode prog_13_method_41_code 28 = .ok (.iload 4, 2) := by decide +kernel
theorem d_Mo_calls_30 : decode prog_13_method_41_code 30 = .ok (.iadd, 1) := by decide +kernel
theorem d_Mo_calls_31 : decode prog_13_method_41_code 31 = .ok (.iaload, 1) := by decide +kernel
theorem d_Mo_calls_32 : decode prog_13_method_41_code 32 = .ok (.bipush 11, 2) := by decide +kernel
theorem d_Mo_calls_34 : decode prog_13_method_41_code 34 = .ok (.if_icmp .ne 23, 3) := by decide +kernel
theorem d_Mo_calls_37 : decode prog_13_method_41_code 37 = .ok (.aload_n 0, 1) := by decide +kernel
theorem d_Mo_calls_38 : decode prog_13_method_41_code 38 = .ok (.getfield 16, 3) := by decide +kernel
theorem d_Mo_calls_41 : decode prog_13_method_41_code 41 = .ok (.bipush 24, 2) := by decide +kernel
theorem d_Mo_calls_43 : decode prog_13_method_41_code 43 = .ok (.iload_n 1, 1) := by decide +kernel
theorem d_Mo_calls_44 : decode prog_13_method_41_code 44 = .ok (.imul, 1) := by decide +kernel
theorem d_Mo_calls_45 : decode prog_13_method_41_code 45 = .ok (.iload 4, 2) := by decide +kernel
theorem d_Mo_calls_47 : decode prog_13_method_41_code 47 = .ok (.iadd, 1) := by decide +kernel
theorem d_Mo_calls_48 : decode prog_13_method_41_code 48 = .ok (.iaload, 1) := by decide +kernel
theorem d_Mo_calls_49 : decode prog_13_method_41_code 49 = .ok (.iload_n 2, 1) := by decide +kernel
theorem d_Mo_calls_50 : decode prog_13_method_41_code 50 = .ok (.if_icmp .ne 7, 3) := by decide +kernel
theorem d_Mo_calls_53 : decode prog_13_method_41_code 53 = .ok (.iconst 1, 1) := by decide +kernel
theorem d_Mo_calls_54 : decode prog_13_method_41_code 54 = .ok (.goto 4, 3) := by decide +kernel
theorem d_Mo_calls_57 : decode prog_13_method_41_code 57 = .ok (.iconst 0, 1) := by decide +kernel
theorem d_Mo_calls_58 : decode prog_13_method_41_code 58 = .ok (.istore_n 3, 1) := by decide +kernel
theorem d_Mo_calls_59 : decode prog_13_method_41_code 59 = .ok (.iinc 4 1, 3) := by decide +kernel
theorem d_Mo_calls_62 : decode prog_13_method_41_code 62 = .ok (.goto (-57), 3) := by decide +kernel
theorem d_Mo_calls_65 : decode prog_13_method_41_code 65 = .ok (.iload_n 3, 1) := by decide +kernel
theorem d_Mo_calls_66 : decode prog_13_method_41_code 66 = .ok (.ireturn, 1) := by decide +kernel
theorem d_Mo_greatest_0 : decode prog_13_method_40_code 0 = .ok (.iload_n 0, 1) := by decide +kernel
theorem d_Mo_greatest_1 : decode prog_13_method_40_code 1 = .ok (.iload_n 1, 1) := by decide +kernel
theorem d_Mo_greatest_2 : decode prog_13_method_40_code 2 = .ok (.if_icmp .le 7, 3) := by decide +kernel
theorem d_Mo_greatest_5 : decode prog_13_method_40_code 5 = .ok (.iload_n 0, 1) := by decide +kernel
theorem d_Mo_greatest_6 : decode prog_13_method_40_code 6 = .ok (.goto 4, 3) := by decide +kernel
theorem d_Mo_greatest_9 : decode prog_13_method_40_code 9 = .ok (.iload_n 1, 1) := by decide +kernel
theorem d_Mo_greatest_10 : decode prog_13_method_40_code 10 = .ok (.ireturn, 1) := by decide +kernel
theorem d_Mo_feed_0 : decode prog_13_method_42_code 0 = .ok (.aload_n 0, 1) := by decide +kernel
theorem d_Mo_feed_1 : decode prog_13_method_42_code 1 = .ok (.getfield 238, 3) := by decide +kernel
theorem d_Mo_feed_4 : decode prog_13_method_42_code 4 = .ok (.bipush 12, 2) := by decide +kernel
theorem d_Mo_feed_6 : decode prog_13_method_42_code 6 = .ok (.if_icmp .eq 17, 3) := by decide +kernel
theorem d_Mo_feed_9 : decode prog_13_method_42_code 9 = .ok (.iload_n 1, 1) := by decide +kernel
theorem d_Mo_feed_10 : decode prog_13_method_42_code 10 = .ok (.i2l, 1) := by decide +kernel
theorem d_Mo_feed_11 : decode prog_13_method_42_code 11 = .ok (.ldc2_w 222, 3) := by decide +kernel
theorem d_Mo_feed_14 : decode prog_13_method_42_code 14 = .ok (.ldc2_w 224, 3) := by decide +kernel
theorem d_Mo_feed_17 : decode prog_13_method_42_code 17 = .ok (.invokestatic 86, 3) := by decide +kernel
theorem d_Mo_feed_20 : decode prog_13_method_42_code 20 = .ok (.ifCond .ne 5, 3) := by decide +kernel
theorem d_Mo_feed_23 : decode prog_13_method_42_code 23 = .ok (.iconst 0, 1) := by decide +kernel
theorem d_Mo_feed_24 : decode prog_13_method_42_code 24 = .ok (.ireturn, 1) := by decide +kernel
theorem d_Mo_feed_25 : decode prog_13_method_42_code 25 = .ok (.aload_n 0, 1) := by decide +kernel
theorem d_Mo_feed_26 : decode prog_13_method_42_code 26 = .ok (.getfield 66, 3) := by decide +kernel
theorem d_Mo_feed_29 : decode prog_13_method_42_code 29 = .ok (.aload_n 0, 1) := by decide +kernel
theorem d_Mo_feed_30 : decode prog_13_method_42_code 30 = .ok (.getfield 238, 3) := by decide +kernel
theorem d_Mo_feed_33 : decode prog_13_method_42_code 33 = .ok (.iload_n 1, 1) := by decide +kernel
theorem d_Mo_feed_34 : decode prog_13_method_42_code 34 = .ok (.iastore, 1) := by decide +kernel
theorem d_Mo_feed_35 : decode prog_13_method_42_code 35 = .ok (.aload_n 0, 1) := by decide +kernel
theorem d_Mo_feed_36 : decode prog_13_method_42_code 36 = .ok (.dup, 1) := by decide +kernel
theorem d_Mo_feed_37 : decode prog_13_method_42_code 37 = .ok (.getfield 238, 3) := by decide +kernel
theorem d_Mo_feed_40 : decode prog_13_method_42_code 40 = .ok (.iconst 1, 1) := by decide +kernel
theorem d_Mo_feed_41 : decode prog_13_method_42_code 41 = .ok (.iadd, 1) := by decide +kernel
theorem d_Mo_feed_42 : decode prog_13_method_42_code 42 = .ok (.putfield 238, 3) := by decide +kernel
theorem d_Mo_feed_45 : decode prog_13_method_42_code 45 = .ok (.iconst 1, 1) := by decide +kernel
theorem d_Mo_feed_46 : decode prog_13_method_42_code 46 = .ok (.ireturn, 1) := by decide +kernel
theorem d_Mo_run_0 : decode prog_13_method_44_code 0 = .ok (.iload_n 1, 1) := by decide +kernel
theorem d_Mo_run_1 : decode prog_13_method_44_code 1 = .ok (.i2l, 1) := by decide +kernel
theorem d_Mo_run_2 : decode prog_13_method_44_code 2 = .ok (.lconst 0, 1) := by decide +kernel
theorem d_Mo_run_3 : decode prog_13_method_44_code 3 = .ok (.ldc2_w 84, 3) := by decide +kernel
theorem d_Mo_run_6 : decode prog_13_method_44_code 6 = .ok (.invokestatic 86, 3) := by decide +kernel
theorem d_Mo_run_9 : decode prog_13_method_44_code 9 = .ok (.ifCond .eq 46, 3) := by decide +kernel
theorem d_Mo_run_12 : decode prog_13_method_44_code 12 = .ok (.iload_n 2, 1) := by decide +kernel
theorem d_Mo_run_13 : decode prog_13_method_44_code 13 = .ok (.i2l, 1) := by decide +kernel
theorem d_Mo_run_14 : decode prog_13_method_44_code 14 = .ok (.ldc2_w 222, 3) := by decide +kernel
theorem d_Mo_run_17 : decode prog_13_method_44_code 17 = .ok (.ldc2_w 224, 3) := by decide +kernel
theorem d_Mo_run_20 : decode prog_13_method_44_code 20 = .ok (.invokestatic 86, 3) := by decide +kernel
theorem d_Mo_run_23 : decode prog_13_method_44_code 23 = .ok (.ifCond .eq 32, 3) := by decide +kernel
theorem d_Mo_run_26 : decode prog_13_method_44_code 26 = .ok (.iload_n 3, 1) := by decide +kernel
theorem d_Mo_run_27 : decode prog_13_method_44_code 27 = .ok (.i2l, 1) := by decide +kernel
theorem d_Mo_run_28 : decode prog_13_method_44_code 28 = .ok (.ldc2_w 222, 3) := by decide +kernel
theorem d_Mo_run_31 : decode prog_13_method_44_code 31 = .ok (.ldc2_w 224, 3) := by decide +kernel
theorem d_Mo_run_34 : decode prog_13_method_44_code 34 = .ok (.invokestatic 86, 3) := by decide +kernel
theorem d_Mo_run_37 : decode prog_13_method_44_code 37 = .ok (.ifCond .eq 18, 3) := by decide +kernel
theorem d_Mo_run_40 : decode prog_13_method_44_code 40 = .ok (.iload 4, 2) := by decide +kernel
theorem d_Mo_run_42 : decode prog_13_method_44_code 42 = .ok (.i2l, 1) := by decide +kernel
theorem d_Mo_run_43 : decode prog_13_method_44_code 43 = .ok (.ldc2_w 222, 3) := by decide +kernel
theorem d_Mo_run_46 : decode prog_13_method_44_code 46 = .ok (.ldc2_w 224, 3) := by decide +kernel
theorem d_Mo_run_49 : decode prog_13_method_44_code 49 = .ok (.invokestatic 86, 3) := by decide +kernel
theorem d_Mo_run_52 : decode prog_13_method_44_code 52 = .ok (.ifCond .ne 5, 3) := by decide +kernel
theorem d_Mo_run_55 : decode prog_13_method_44_code 55 = .ok (.iconst (-1), 1) := by decide +kernel
theorem d_Mo_run_56 : decode prog_13_method_44_code 56 = .ok (.ireturn, 1) := by decide +kernel
theorem d_Mo_run_57 : decode prog_13_method_44_code 57 = .ok (.aload_n 0, 1) := by decide +kernel
theorem d_Mo_run_58 : decode prog_13_method_44_code 58 = .ok (.getfield 7, 3) := by decide +kernel
theorem d_Mo_run_61 : decode prog_13_method_44_code 61 = .ok (.iload_n 1, 1) := by decide +kernel
theorem d_Mo_run_62 : decode prog_13_method_44_code 62 = .ok (.iaload, 1) := by decide +kernel
theorem d_Mo_run_63 : decode prog_13_method_44_code 63 = .ok (.ifCond .ne 5, 3) := by decide +kernel
theorem d_Mo_run_66 : decode prog_13_method_44_code 66 = .ok (.iconst (-1), 1) := by decide +kernel
theorem d_Mo_run_67 : decode prog_13_method_44_code 67 = .ok (.ireturn, 1) := by decide +kernel
theorem d_Mo_run_68 : decode prog_13_method_44_code 68 = .ok (.aload_n 0, 1) := by decide +kernel
theorem d_Mo_run_69 : decode prog_13_method_44_code 69 = .ok (.iconst 0, 1) := by decide +kernel
theorem d_Mo_run_70 : decode prog_13_method_44_code 70 = .ok (.putfield 241, 3) := by decide +kernel
theorem d_Mo_run_73 : decode prog_13_method_44_code 73 = .ok (.aload_n 0, 1) := by decide +kernel
theorem d_Mo_run_74 : decode prog_13_method_44_code 74 = .ok (.iconst 0, 1) := by decide +kernel
theorem d_Mo_run_75 : decode prog_13_method_44_code 75 = .ok (.putfield 247, 3) := by decide +kernel
theorem d_Mo_run_78 : decode prog_13_method_44_code 78 = .ok (.aload_n 0, 1) := by decide +kernel
theorem d_Mo_run_79 : decode prog_13_method_44_code 79 = .ok (.iconst 0, 1) := by decide +kernel
theorem d_Mo_run_80 : decode prog_13_method_44_code 80 = .ok (.putfield 250, 3) := by decide +kernel
theorem d_Mo_run_83 : decode prog_13_method_44_code 83 = .ok (.aload_n 0, 1) := by decide +kernel
theorem d_Mo_run_84 : decode prog_13_method_44_code 84 = .ok (.iconst 0, 1) := by decide +kernel
theorem d_Mo_run_85 : decode prog_13_method_44_code 85 = .ok (.putfield 253, 3) := by decide +kernel
theorem d_Mo_run_88 : decode prog_13_method_44_code 88 = .ok (.aload_n 0, 1) := by decide +kernel
theorem d_Mo_run_89 : decode prog_13_method_44_code 89 = .ok (.iconst 0, 1) := by decide +kernel
theorem d_Mo_run_90 : decode prog_13_method_44_code 90 = .ok (.putfield 244, 3) := by decide +kernel
theorem d_Mo_run_93 : decode prog_13_method_44_code 93 = .ok (.aload_n 0, 1) := by decide +kernel
theorem d_Mo_run_94 : decode prog_13_method_44_code 94 = .ok (.iconst 0, 1) := by decide +kernel
theorem d_Mo_run_95 : decode prog_13_method_44_code 95 = .ok (.putfield 256, 3) := by decide +kernel
theorem d_Mo_run_98 : decode prog_13_method_44_code 98 = .ok (.aload_n 0, 1) := by decide +kernel
theorem d_Mo_run_99 : decode prog_13_method_44_code 99 = .ok (.iload_n 1, 1) := by decide +kernel
theorem d_Mo_run_100 : decode prog_13_method_44_code 100 = .ok (.iload_n 2, 1) := by decide +kernel
theorem d_Mo_run_101 : decode prog_13_method_44_code 101 = .ok (.iload_n 3, 1) := by decide +kernel
theorem d_Mo_run_102 : decode prog_13_method_44_code 102 = .ok (.iload 4, 2) := by decide +kernel
theorem d_Mo_run_104 : decode prog_13_method_44_code 104 = .ok (.invokevirtual 259, 3) := by decide +kernel
theorem d_Mo_run_107 : decode prog_13_method_44_code 107 = .ok (.iconst 0, 1) := by decide +kernel
theorem d_Mo_run_108 : decode prog_13_method_44_code 108 = .ok (.istore 5, 2) := by decide +kernel
theorem d_Mo_run_110 : decode prog_13_method_44_code 110 = .ok (.iload 5, 2) := by decide +kernel
theorem d_Mo_run_112 : decode prog_13_method_44_code 112 = .ok (.ifCond .ne 26, 3) := by decide +kernel
theorem d_Mo_run_115 : decode prog_13_method_44_code 115 = .ok (.aload_n 0, 1) := by decide +kernel
theorem d_Mo_run_116 : decode prog_13_method_44_code 116 = .ok (.getfield 250, 3) := by decide +kernel
theorem d_Mo_run_119 : decode prog_13_method_44_code 119 = .ok (.sipush 3000, 3) := by decide +kernel
theorem d_Mo_run_122 : decode prog_13_method_44_code 122 = .ok (.if_icmp .ne 7, 3) := by decide +kernel
theorem d_Mo_run_125 : decode prog_13_method_44_code 125 = .ok (.iconst 4, 1) := by decide +kernel
theorem d_Mo_run_126 : decode prog_13_method_44_code 126 = .ok (.goto 7, 3) := by decide +kernel
theorem d_Mo_run_129 : decode prog_13_method_44_code 129 = .ok (.aload_n 0, 1) := by decide +kernel
theorem d_Mo_run_130 : decode prog_13_method_44_code 130 = .ok (.invokevirtual 263, 3) := by decide +kernel
theorem d_Mo_run_133 : decode prog_13_method_44_code 133 = .ok (.istore 5, 2) := by decide +kernel
theorem d_Mo_run_135 : decode prog_13_method_44_code 135 = .ok (.goto (-25), 3) := by decide +kernel
theorem d_Mo_run_138 : decode prog_13_method_44_code 138 = .ok (.aload_n 0, 1) := by decide +kernel
theorem d_Mo_run_139 : decode prog_13_method_44_code 139 = .ok (.iconst 0, 1) := by decide +kernel
theorem d_Mo_run_140 : decode prog_13_method_44_code 140 = .ok (.putfield 238, 3) := by decide +kernel
theorem d_Mo_run_143 : decode prog_13_method_44_code 143 = .ok (.iload 5, 2) := by decide +kernel
theorem d_Mo_run_145 : decode prog_13_method_44_code 145 = .ok (.ireturn, 1) := by decide +kernel
theorem d_Mo_enter_0 : decode prog_13_method_43_code 0 = .ok (.aload_n 0, 1) := by decide +kernel
theorem d_Mo_enter_1 : decode prog_13_method_43_code 1 = .ok (.getfield 241, 3) := by decide +kernel
theorem d_Mo_enter_4 : decode prog_13_method_43_code 4 = .ok (.istore 5, 2) := by decide +kernel
theorem d_Mo_enter_6 : decode prog_13_method_43_code 6 = .ok (.aload_n 0, 1) := by decide +kernel
theorem d_Mo_enter_7 : decode prog_13_method_43_code 7 = .ok (.getfield 69, 3) := by decide +kernel
theorem d_Mo_enter_10 : decode prog_13_method_43_code 10 = .ok (.iload 5, 2) := by decide +kernel
theorem d_Mo_enter_12 : decode prog_13_method_43_code 12 = .ok (.iload_n 1, 1) := by decide +kernel
theorem d_Mo_enter_13 : decode prog_13_method_43_code 13 = .ok (.iastore, 1) := by decide +kernel
theorem d_Mo_enter_14 : decode prog_13_method_43_code 14 = .ok (.aload_n 0, 1) := by decide +kernel
theorem d_Mo_enter_15 : decode prog_13_method_43_code 15 = .ok (.getfield 72, 3) := by decide +kernel
theorem d_Mo_enter_18 : decode prog_13_method_43_code 18 = .ok (.iload 5, 2) := by decide +kernel
theorem d_Mo_enter_20 : decode prog_13_method_43_code 20 = .ok (.iconst 0, 1) := by decide +kernel
theorem d_Mo_enter_21 : decode prog_13_method_43_code 21 = .ok (.iastore, 1) := by decide +kernel
theorem d_Mo_enter_22 : decode prog_13_method_43_code 22 = .ok (.aload_n 0, 1) := by decide +kernel
theorem d_Mo_enter_23 : decode prog_13_method_43_code 23 = .ok (.getfield 75, 3) := by decide +kernel
theorem d_Mo_enter_26 : decode prog_13_method_43_code 26 = .ok (.iload 5, 2) := by decide +kernel
theorem d_Mo_enter_28 : decode prog_13_method_43_code 28 = .ok (.iconst 0, 1) := by decide +kernel
theorem d_Mo_enter_29 : decode prog_13_method_43_code 29 = .ok (.iastore, 1) := by decide +kernel
theorem d_Mo_enter_30 : decode prog_13_method_43_code 30 = .ok (.aload_n 0, 1) := by decide +kernel
theorem d_Mo_enter_31 : decode prog_13_method_43_code 31 = .ok (.getfield 78, 3) := by decide +kernel
theorem d_Mo_enter_34 : decode prog_13_method_43_code 34 = .ok (.iconst 4, 1) := by decide +kernel
theorem d_Mo_enter_35 : decode prog_13_method_43_code 35 = .ok (.iload 5, 2) := by decide +kernel
theorem d_Mo_enter_37 : decode prog_13_method_43_code 37 = .ok (.imul, 1) := by decide +kernel
theorem d_Mo_enter_38 : decode prog_13_method_43_code 38 = .ok (.iload_n 2, 1) := by decide +kernel
theorem d_Mo_enter_39 : decode prog_13_method_43_code 39 = .ok (.iastore, 1) := by decide +kernel
theorem d_Mo_enter_40 : decode prog_13_method_43_code 40 = .ok (.aload_n 0, 1) := by decide +kernel
theorem d_Mo_enter_41 : decode prog_13_method_43_code 41 = .ok (.getfield 78, 3) := by decide +kernel
theorem d_Mo_enter_44 : decode prog_13_method_43_code 44 = .ok (.iconst 4, 1) := by decide +kernel
theorem d_Mo_enter_45 : decode prog_13_method_43_code 45 = .ok (.iload 5, 2) := by decide +kernel
theorem d_Mo_enter_47 : decode prog_13_method_43_code 47 = .ok (.imul, 1) := by decide +kernel
theorem d_Mo_enter_48 : decode prog_13_method_43_code 48 = .ok (.iconst 1, 1) := by decide +kernel
theorem d_Mo_enter_49 : decode prog_13_method_43_code 49 = .ok (.iadd, 1) := by decide +kernel
theorem d_Mo_enter_50 : decode prog_13_method_43_code 50 = .ok (.iload_n 3, 1) := by decide +kernel
theorem d_Mo_enter_51 : decode prog_13_method_43_code 51 = .ok (.iastore, 1) := by decide +kernel
theorem d_Mo_enter_52 : decode prog_13_method_43_code 52 = .ok (.aload_n 0, 1) := by decide +kernel
theorem d_Mo_enter_53 : decode prog_13_method_43_code 53 = .ok (.getfield 78, 3) := by decide +kernel
theorem d_Mo_enter_56 : decode prog_13_method_43_code 56 = .ok (.iconst 4, 1) := by decide +kernel
theorem d_Mo_enter_57 : decode prog_13_method_43_code 57 = .ok (.iload 5, 2) := by decide +kernel
theorem d_Mo_enter_59 : decode prog_13_method_43_code 59 = .ok (.imul, 1) := by decide +kernel
theorem d_Mo_enter_60 : decode prog_13_method_43_code 60 = .ok (.iconst 2, 1) := by decide +kernel
theorem d_Mo_enter_61 : decode prog_13_method_43_code 61 = .ok (.iadd, 1) := by decide +kernel
theorem d_Mo_enter_62 : decode prog_13_method_43_code 62 = .ok (.iload 4, 2) := by decide +kernel
theorem d_Mo_enter_64 : decode prog_13_method_43_code 64 = .ok (.iastore, 1) := by decide +kernel
theorem d_Mo_enter_65 : decode prog_13_method_43_code 65 = .ok (.aload_n 0, 1) := by decide +kernel
theorem d_Mo_enter_66 : decode prog_13_method_43_code 66 = .ok (.getfield 78, 3) := by decide +kernel
theorem d_Mo_enter_69 : decode prog_13_method_43_code 69 = .ok (.iconst 4, 1) := by decide +kernel
theorem d_Mo_enter_70 : decode prog_13_method_43_code 70 = .ok (.iload 5, 2) := by decide +kernel
theorem d_Mo_enter_72 : decode prog_13_method_43_code 72 = .ok (.imul, 1) := by decide +kernel
theorem d_Mo_enter_73 : decode prog_13_method_43_code 73 = .ok (.iconst 3, 1) := by decide +kernel
theorem d_Mo_enter_74 : decode prog_13_method_43_code 74 = .ok (.iadd, 1) := by decide +kernel
theorem d_Mo_enter_75 : decode prog_13_method_43_code 75 = .ok (.iconst 0, 1) := by decide +kernel
theorem d_Mo_enter_76 : decode prog_13_method_43_code 76 = .ok (.iastore, 1) := by decide +kernel
theorem d_Mo_enter_77 : decode prog_13_method_43_code 77 = .ok (.aload_n 0, 1) := by decide +kernel
theorem d_Mo_enter_78 : decode prog_13_method_43_code 78 = .ok (.dup, 1) := by decide +kernel
theorem d_Mo_enter_79 : decode prog_13_method_43_code 79 = .ok (.getfield 241, 3) := by decide +kernel
theorem d_Mo_enter_82 : decode prog_13_method_43_code 82 = .ok (.iconst 1, 1) := by decide +kernel
theorem d_Mo_enter_83 : decode prog_13_method_43_code 83 = .ok (.iadd, 1) := by decide +kernel
theorem d_Mo_enter_84 : decode prog_13_method_43_code 84 = .ok (.putfield 241, 3) := by decide +kernel
theorem d_Mo_enter_87 : decode prog_13_method_43_code 87 = .ok (.aload_n 0, 1) := by decide +kernel
theorem d_Mo_enter_88 : decode prog_13_method_43_code 88 = .ok (.aload_n 0, 1) := by decide +kernel
theorem d_Mo_enter_89 : decode prog_13_method_43_code 89 = .ok (.getfield 241, 3) := by decide +kernel
theorem d_Mo_enter_92 : decode prog_13_method_43_code 92 = .ok (.aload_n 0, 1) := by decide +kernel
theorem d_Mo_enter_93 : decode prog_13_method_43_code 93 = .ok (.getfield 244, 3) := by decide +kernel
theorem d_Mo_enter_96 : decode prog_13_method_43_code 96 = .ok (.if_icmp .le 10, 3) := by decide +kernel
theorem d_Mo_enter_99 : decode prog_13_method_43_code 99 = .ok (.aload_n 0, 1) := by decide +kernel
theorem d_Mo_enter_100 : decode prog_13_method_43_code 100 = .ok (.getfield 241, 3) := by decide +kernel
theorem d_Mo_enter_103 : decode prog_13_method_43_code 103 = .ok (.goto 7, 3) := by decide +kernel
theorem d_Mo_enter_106 : decode prog_13_method_43_code 106 = .ok (.aload_n 0, 1) := by decide +kernel
theorem d_Mo_enter_107 : decode prog_13_method_43_code 107 = .ok (.getfield 244, 3) := by decide +kernel
theorem d_Mo_enter_110 : decode prog_13_method_43_code 110 = .ok (.putfield 244, 3) := by decide +kernel
theorem d_Mo_enter_113 : decode prog_13_method_43_code 113 = .ok (.return_, 1) := by decide +kernel
theorem d_Mo_makeStep_0 : decode prog_13_method_48_code 0 = .ok (.aload_n 0, 1) := by decide +kernel
theorem d_Mo_makeStep_1 : decode prog_13_method_48_code 1 = .ok (.getfield 241, 3) := by decide +kernel
theorem d_Mo_makeStep_4 : decode prog_13_method_48_code 4 = .ok (.iconst 1, 1) := by decide +kernel
theorem d_Mo_makeStep_5 : decode prog_13_method_48_code 5 = .ok (.isub, 1) := by decide +kernel
theorem d_Mo_makeStep_6 : decode prog_13_method_48_code 6 = .ok (.istore_n 1, 1) := by decide +kernel
theorem d_Mo_makeStep_7 : decode prog_13_method_48_code 7 = .ok (.aload_n 0, 1) := by decide +kernel
theorem d_Mo_makeStep_8 : decode prog_13_method_48_code 8 = .ok (.getfield 69, 3) := by decide +kernel
theorem d_Mo_makeStep_11 : decode prog_13_method_48_code 11 = .ok (.iload_n 1, 1) := by decide +kernel
theorem d_Mo_makeStep_12 : decode prog_13_method_48_code 12 = .ok (.iaload, 1) := by decide +kernel
theorem d_Mo_makeStep_13 : decode prog_13_method_48_code 13 = .ok (.istore_n 2, 1) := by decide +kernel
theorem d_Mo_makeStep_14 : decode prog_13_method_48_code 14 = .ok (.aload_n 0, 1) := by decide +kernel
theorem d_Mo_makeStep_15 : decode prog_13_method_48_code 15 = .ok (.getfield 13, 3) := by decide +kernel
theorem d_Mo_makeStep_18 : decode prog_13_method_48_code 18 = .ok (.bipush 24, 2) := by decide +kernel
theorem d_Mo_makeStep_20 : decode prog_13_method_48_code 20 = .ok (.iload_n 2, 1) := by decide +kernel
theorem d_Mo_makeStep_21 : decode prog_13_method_48_code 21 = .ok (.imul, 1) := by decide +kernel
theorem d_Mo_makeStep_22 : decode prog_13_method_48_code 22 = .ok (.aload_n 0, 1) := by decide +kernel
theorem d_Mo_makeStep_23 : decode prog_13_method_48_code 23 = .ok (.getfield 72, 3) := by decide +kernel
theorem d_Mo_makeStep_26 : decode prog_13_method_48_code 26 = .ok (.iload_n 1, 1) := by decide +kernel
theorem d_Mo_makeStep_27 : decode prog_13_method_48_code 27 = .ok (.iaload, 1) := by decide +kernel
theorem d_Mo_makeStep_28 : decode prog_13_method_48_code 28 = .ok (.iadd, 1) := by decide +kernel
theorem d_Mo_makeStep_29 : decode prog_13_method_48_code 29 = .ok (.iaload, 1) := by decide +kernel
theorem d_Mo_makeStep_30 : decode prog_13_method_48_code 30 = .ok (.istore_n 3, 1) := by decide +kernel
theorem d_Mo_makeStep_31 : decode prog_13_method_48_code 31 = .ok (.aload_n 0, 1) := by decide +kernel
theorem d_Mo_makeStep_32 : decode prog_13_method_48_code 32 = .ok (.getfield 16, 3) := by decide +kernel
theorem d_Mo_makeStep_35 : decode prog_13_method_48_code 35 = .ok (.bipush 24, 2) := by decide +kernel
theorem d_Mo_makeStep_37 : decode prog_13_method_48_code 37 = .ok (.iload_n 2, 1) := by decide +kernel
theorem d_Mo_makeStep_38 : decode prog_13_method_48_code 38 = .ok (.imul, 1) := by decide +kernel
theorem d_Mo_makeStep_39 : decode prog_13_method_48_code 39 = .ok (.aload_n 0, 1) := by decide +kernel
theorem d_Mo_makeStep_40 : decode prog_13_method_48_code 40 = .ok (.getfield 72, 3) := by decide +kernel
theorem d_Mo_makeStep_43 : decode prog_13_method_48_code 43 = .ok (.iload_n 1, 1) := by decide +kernel
theorem d_Mo_makeStep_44 : decode prog_13_method_48_code 44 = .ok (.iaload, 1) := by decide +kernel
theorem d_Mo_makeStep_45 : decode prog_13_method_48_code 45 = .ok (.iadd, 1) := by decide +kernel
theorem d_Mo_makeStep_46 : decode prog_13_method_48_code 46 = .ok (.iaload, 1) := by decide +kernel
theorem d_Mo_makeStep_47 : decode prog_13_method_48_code 47 = .ok (.istore 4, 2) := by decide +kernel
theorem d_Mo_makeStep_49 : decode prog_13_method_48_code 49 = .ok (.aload_n 0, 1) := by decide +kernel
theorem d_Mo_makeStep_50 : decode prog_13_method_48_code 50 = .ok (.dup, 1) := by decide +kernel
theorem d_Mo_makeStep_51 : decode prog_13_method_48_code 51 = .ok (.getfield 250, 3) := by decide +kernel
theorem d_Mo_makeStep_54 : decode prog_13_method_48_code 54 = .ok (.iconst 1, 1) := by decide +kernel
theorem d_Mo_makeStep_55 : decode prog_13_method_48_code 55 = .ok (.iadd, 1) := by decide +kernel
theorem d_Mo_makeStep_56 : decode prog_13_method_48_code 56 = .ok (.putfield 250, 3) := by decide +kernel
theorem d_Mo_makeStep_59 : decode prog_13_method_48_code 59 = .ok (.iload_n 3, 1) := by decide +kernel
theorem d_Mo_makeStep_60 : decode prog_13_method_48_code 60 = .ok (.iconst 2, 1) := by decide +kernel
theorem d_Mo_makeStep_61 : decode prog_13_method_48_code 61 = .ok (.if_icmp .eq 21, 3) := by decide +kernel
theorem d_Mo_makeStep_64 : decode prog_13_method_48_code 64 = .ok (.iload_n 3, 1) := by decide +kernel
theorem d_Mo_makeStep_65 : decode prog_13_method_48_code 65 = .ok (.bipush 10, 2) := by decide +kernel
theorem d_Mo_makeStep_67 : decode prog_13_method_48_code 67 = .ok (.if_icmp .eq 15, 3) := by decide +kernel
theorem d_Mo_makeStep_70 : decode prog_13_method_48_code 70 = .ok (.iload_n 3, 1) := by decide +kernel
theorem d_Mo_makeStep_71 : decode prog_13_method_48_code 71 = .ok (.bipush 12, 2) := by decide +kernel
theorem d_Mo_makeStep_73 : decode prog_13_method_48_code 73 = .ok (.if_icmp .eq 9, 3) := by decide +kernel
theorem d_Mo_makeStep_76 : decode prog_13_method_48_code 76 = .ok (.iload_n 3, 1) := by decide +kernel
theorem d_Mo_makeStep_77 : decode prog_13_method_48_code 77 = .ok (.bipush 14, 2) := by decide +kernel
theorem d_Mo_makeStep_79 : decode prog_13_method_48_code 79 = .ok (.if_icmp .ne 7, 3) := by decide +kernel
theorem d_Mo_makeStep_82 : decode prog_13_method_48_code 82 = .ok (.iconst 1, 1) := by decide +kernel
theorem d_Mo_makeStep_83 : decode prog_13_method_48_code 83 = .ok (.goto 40, 3) := by decide +kernel
theorem d_Mo_makeStep_86 : decode prog_13_method_48_code 86 = .ok (.iload_n 3, 1) := by decide +kernel
theorem d_Mo_makeStep_87 : decode prog_13_method_48_code 87 = .ok (.iconst 3, 1) := by decide +kernel
theorem d_Mo_makeStep_88 : decode prog_13_method_48_code 88 = .ok (.if_icmp .eq 20, 3) := by decide +kernel
theorem d_Mo_makeStep_91 : decode prog_13_method_48_code 91 = .ok (.iload_n 3, 1) := by decide +kernel
theorem d_Mo_makeStep_92 : decode prog_13_method_48_code 92 = .ok (.iconst 4, 1) := by decide +kernel
theorem d_Mo_makeStep_93 : decode prog_13_method_48_code 93 = .ok (.if_icmp .eq 15, 3) := by decide +kernel
theorem d_Mo_makeStep_96 : decode prog_13_method_48_code 96 = .ok (.iload_n 3, 1) := by decide +kernel
theorem d_Mo_makeStep_97 : decode prog_13_method_48_code 97 = .ok (.bipush 8, 2) := by decide +kernel
theorem d_Mo_makeStep_99 : decode prog_13_method_48_code 99 = .ok (.if_icmp .eq 9, 3) := by decide +kernel
theorem d_Mo_makeStep_102 : decode prog_13_method_48_code 102 = .ok (.iload_n 3, 1) := by decide +kernel
theorem d_Mo_makeStep_103 : decode prog_13_method_48_code 103 = .ok (.bipush 9, 2) := by decide +kernel
theorem d_Mo_makeStep_105 : decode prog_13_method_48_code 105 = .ok (.if_icmp .ne 7, 3) := by decide +kernel
theorem d_Mo_makeStep_108 : decode prog_13_method_48_code 108 = .ok (.iconst 2, 1) := by decide +kernel
theorem d_Mo_makeStep_109 : decode prog_13_method_48_code 109 = .ok (.goto 14, 3) := by decide +kernel
theorem d_Mo_makeStep_112 : decode prog_13_method_48_code 112 = .ok (.iload_n 3, 1) := by decide +kernel
theorem d_Mo_makeStep_113 : decode prog_13_method_48_code 113 = .ok (.bipush 11, 2) := by decide +kernel
theorem d_Mo_makeStep_115 : decode prog_13_method_48_code 115 = .ok (.if_icmp .ne 7, 3) := by decide +kernel
theorem d_Mo_makeStep_118 : decode prog_13_method_48_code 118 = .ok (.iconst 3, 1) := by decide +kernel
theorem d_Mo_makeStep_119 : decode prog_13_method_48_code 119 = .ok (.goto 4, 3) := by decide +kernel
theorem d_Mo_makeStep_122 : decode prog_13_method_48_code 122 = .ok (.iconst 0, 1) := by decide +kernel
theorem d_Mo_makeStep_123 : decode prog_13_method_48_code 123 = .ok (.istore 5, 2) := by decide +kernel
theorem d_Mo_makeStep_125 : decode prog_13_method_48_code 125 = .ok (.iload_n 3, 1) := by decide +kernel
theorem d_Mo_makeStep_126 : decode prog_13_method_48_code 126 = .ok (.iconst 1, 1) := by decide +kernel
theorem d_Mo_makeStep_127 : decode prog_13_method_48_code 127 = .ok (.if_icmp .le 9, 3) := by decide +kernel
theorem d_Mo_makeStep_130 : decode prog_13_method_48_code 130 = .ok (.iload_n 3, 1) := by decide +kernel
theorem d_Mo_makeStep_131 : decode prog_13_method_48_code 131 = .ok (.bipush 13, 2) := by decide +kernel
theorem d_Mo_makeStep_133 : decode prog_13_method_48_code 133 = .ok (.if_icmp .ne 7, 3) := by decide +kernel
theorem d_Mo_makeStep_136 : decode prog_13_method_48_code 136 = .ok (.iconst 1, 1) := by decide +kernel
theorem d_Mo_makeStep_137 : decode prog_13_method_48_code 137 = .ok (.goto 4, 3) := by decide +kernel
theorem d_Mo_makeStep_140 : decode prog_13_method_48_code 140 = .ok (.iconst 0, 1) := by decide +kernel
theorem d_Mo_makeStep_141 : decode prog_13_method_48_code 141 = .ok (.istore 6, 2) := by decide +kernel
theorem d_Mo_makeStep_143 : decode prog_13_method_48_code 143 = .ok (.aload_n 0, 1) := by decide +kernel
theorem d_Mo_makeStep_144 : decode prog_13_method_48_code 144 = .ok (.getfield 75, 3) := by decide +kernel
theorem d_Mo_makeStep_147 : decode prog_13_method_48_code 147 = .ok (.iload_n 1, 1) := by decide +kernel
theorem d_Mo_makeStep_148 : decode prog_13_method_48_code 148 = .ok (.iaload, 1) := by decide +kernel
theorem d_Mo_makeStep_149 : decode prog_13_method_48_code 149 = .ok (.iload 5, 2) := by decide +kernel
theorem d_Mo_makeStep_151 : decode prog_13_method_48_code 151 = .ok (.if_icmp .lt 42, 3) := by decide +kernel
theorem d_Mo_makeStep_154 : decode prog_13_method_48_code 154 = .ok (.iload 6, 2) := by decide +kernel
theorem d_Mo_makeStep_156 : decode prog_13_method_48_code 156 = .ok (.ifCond .eq 14, 3) := by decide +kernel
theorem d_Mo_makeStep_159 : decode prog_13_method_48_code 159 = .ok (.aload_n 0, 1) := by decide +kernel
theorem d_Mo_makeStep_160 : decode prog_13_method_48_code 160 = .ok (.getfield 75, 3) := by decide +kernel
theorem d_Mo_makeStep_163 : decode prog_13_method_48_code 163 = .ok (.iload_n 1, 1) := by decide +kernel
theorem d_Mo_makeStep_164 : decode prog_13_method_48_code 164 = .ok (.iaload, 1) := by decide +kernel
theorem d_Mo_makeStep_165 : decode prog_13_method_48_code 165 = .ok (.bipush 6, 2) := by decide +kernel
theorem d_Mo_makeStep_167 : decode prog_13_method_48_code 167 = .ok (.if_icmp .eq 26, 3) := by decide +kernel
theorem d_Mo_makeStep_170 : decode prog_13_method_48_code 170 = .ok (.iload_n 3, 1) := by decide +kernel
theorem d_Mo_makeStep_171 : decode prog_13_method_48_code 171 = .ok (.iconst 1, 1) := by decide +kernel
theorem d_Mo_makeStep_172 : decode prog_13_method_48_code 172 = .ok (.if_icmp .eq 8, 3) := by decide +kernel
theorem d_Mo_makeStep_175 : decode prog_13_method_48_code 175 = .ok (.iload_n 3, 1) := by decide +kernel
theorem d_Mo_makeStep_176 : decode prog_13_method_48_code 176 = .ok (.iconst 2, 1) := by decide +kernel
theorem d_Mo_makeStep_177 : decode prog_13_method_48_code 177 = .ok (.if_icmp .ne 18, 3) := by decide +kernel
theorem d_Mo_makeStep_180 : decode prog_13_method_48_code 180 = .ok (.iload 4, 2) := by decide +kernel
theorem d_Mo_makeStep_182 : decode prog_13_method_48_code 182 = .ok (.i2l, 1) := by decide +kernel
theorem d_Mo_makeStep_183 : decode prog_13_method_48_code 183 = .ok (.lconst 0, 1) := by decide +kernel
theorem d_Mo_makeStep_184 : decode prog_13_method_48_code 184 = .ok (.ldc2_w 84, 3) := by decide +kernel
theorem d_Mo_makeStep_187 : decode prog_13_method_48_code 187 = .ok (.invokestatic 86, 3) := by decide +kernel
theorem d_Mo_makeStep_190 : decode prog_13_method_48_code 190 = .ok (.ifCond .ne 5, 3) := by decide +kernel
theorem d_Mo_makeStep_193 : decode prog_13_method_48_code 193 = .ok (.iconst 3, 1) := by decide +kernel
theorem d_Mo_makeStep_194 : decode prog_13_method_48_code 194 = .ok (.ireturn, 1) := by decide +kernel
theorem d_Mo_makeStep_195 : decode prog_13_method_48_code 195 = .ok (.iload_n 3, 1) := by decide +kernel
theorem d_Mo_makeStep_196 : decode prog_13_method_48_code 196 = .ok (.bipush 11, 2) := by decide +kernel
theorem d_Mo_makeStep_198 : decode prog_13_method_48_code 198 = .ok (.if_icmp .ne 46, 3) := by decide +kernel
theorem d_Mo_makeStep_201 : decode prog_13_method_48_code 201 = .ok (.iload 4, 2) := by decide +kernel
theorem d_Mo_makeStep_203 : decode prog_13_method_48_code 203 = .ok (.i2l, 1) := by decide +kernel
theorem d_Mo_makeStep_204 : decode prog_13_method_48_code 204 = .ok (.lconst 0, 1) := by decide +kernel
theorem d_Mo_makeStep_205 : decode prog_13_method_48_code 205 = .ok (.iload_n 2, 1) := by decide +kernel
theorem d_Mo_makeStep_206 : decode prog_13_method_48_code 206 = .ok (.iconst 1, 1) := by decide +kernel
theorem d_Mo_makeStep_207 : decode prog_13_method_48_code 207 = .ok (.isub, 1) := by decide +kernel
theorem d_Mo_makeStep_208 : decode prog_13_method_48_code 208 = .ok (.i2l, 1) := by decide +kernel
theorem d_Mo_makeStep_209 : decode prog_13_method_48_code 209 = .ok (.invokestatic 86, 3) := by decide +kernel
theorem d_Mo_makeStep_212 : decode prog_13_method_48_code 212 = .ok (.ifCond .eq 30, 3) := by decide +kernel
theorem d_Mo_makeStep_215 : decode prog_13_method_48_code 215 = .ok (.aload_n 0, 1) := by decide +kernel
theorem d_Mo_makeStep_216 : decode prog_13_method_48_code 216 = .ok (.getfield 7, 3) := by decide +kernel
theorem d_Mo_makeStep_219 : decode prog_13_method_48_code 219 = .ok (.iload 4, 2) := by decide +kernel
theorem d_Mo_makeStep_221 : decode prog_13_method_48_code 221 = .ok (.i2l, 1) := by decide +kernel
theorem d_Mo_makeStep_222 : decode prog_13_method_48_code 222 = .ok (.lconst 0, 1) := by decide +kernel
theorem d_Mo_makeStep_223 : decode prog_13_method_48_code 223 = .ok (.ldc2_w 84, 3) := by decide +kernel
theorem d_Mo_makeStep_226 : decode prog_13_method_48_code 226 = .ok (.invokestatic 86, 3) := by decide +kernel
theorem d_Mo_makeStep_229 : decode prog_13_method_48_code 229 = .ok (.ifCond .eq 8, 3) := by decide +kernel
theorem d_Mo_makeStep_232 : decode prog_13_method_48_code 232 = .ok (.iload 4, 2) := by decide +kernel
theorem d_Mo_makeStep_234 : decode prog_13_method_48_code 234 = .ok (.goto 4, 3) := by decide +kernel
theorem d_Mo_makeStep_237 : decode prog_13_method_48_code 237 = .ok (.iconst 0, 1) := by decide +kernel
theorem d_Mo_makeStep_238 : decode prog_13_method_48_code 238 = .ok (.iaload, 1) := by decide +kernel
theorem d_Mo_makeStep_239 : decode prog_13_method_48_code 239 = .ok (.ifCond .ne 5, 3) := by decide +kernel
theorem d_Mo_makeStep_242 : decode prog_13_method_48_code 242 = .ok (.iconst 3, 1) := by decide +kernel
theorem d_Mo_makeStep_243 : decode prog_13_method_48_code 243 = .ok (.ireturn, 1) := by decide +kernel
theorem d_Mo_makeStep_244 : decode prog_13_method_48_code 244 = .ok (.iload_n 3, 1) := by decide +kernel
theorem d_Mo_makeStep_245 : decode prog_13_method_48_code 245 = .ok (.bipush 11, 2) := by decide +kernel
theorem d_Mo_makeStep_247 : decode prog_13_method_48_code 247 = .ok (.if_icmp .ne 38, 3) := by decide +kernel
theorem d_Mo_makeStep_250 : decode prog_13_method_48_code 250 = .ok (.aload_n 0, 1) := by decide +kernel
theorem d_Mo_makeStep_251 : decode prog_13_method_48_code 251 = .ok (.iload_n 1, 1) := by decide +kernel
theorem d_Mo_makeStep_252 : decode prog_13_method_48_code 252 = .ok (.invokevirtual 267, 3) := by decide +kernel
theorem d_Mo_makeStep_255 : decode prog_13_method_48_code 255 = .ok (.istore 7, 2) := by decide +kernel
theorem d_Mo_makeStep_257 : decode prog_13_method_48_code 257 = .ok (.aload_n 0, 1) := by decide +kernel
theorem d_Mo_makeStep_258 : decode prog_13_method_48_code 258 = .ok (.iload_n 1, 1) := by decide +kernel
theorem d_Mo_makeStep_259 : decode prog_13_method_48_code 259 = .ok (.invokevirtual 267, 3) := by decide +kernel
theorem d_Mo_makeStep_262 : decode prog_13_method_48_code 262 = .ok (.istore 8, 2) := by decide +kernel
theorem d_Mo_makeStep_264 : decode prog_13_method_48_code 264 = .ok (.aload_n 0, 1) := by decide +kernel
theorem d_Mo_makeStep_265 : decode prog_13_method_48_code 265 = .ok (.iload_n 1, 1) := by decide +kernel
theorem d_Mo_makeStep_266 : decode prog_13_method_48_code 266 = .ok (.invokevirtual 267, 3) := by decide +kernel
theorem d_Mo_makeStep_269 : decode prog_13_method_48_code 269 = .ok (.istore 9, 2) := by decide +kernel
theorem d_Mo_makeStep_271 : decode prog_13_method_48_code 271 = .ok (.aload_n 0, 1) := by decide +kernel
theorem d_Mo_makeStep_272 : decode prog_13_method_48_code 272 = .ok (.iload 4, 2) := by decide +kernel
theorem d_Mo_makeStep_274 : decode prog_13_method_48_code 274 = .ok (.iload 9, 2) := by decide +kernel
theorem d_Mo_makeStep_276 : decode prog_13_method_48_code 276 = .ok (.iload 8, 2) := by decide +kernel
theorem d_Mo_makeStep_278 : decode prog_13_method_48_code 278 = .ok (.iload 7, 2) := by decide +kernel
theorem d_Mo_makeStep_280 : decode prog_13_method_48_code 280 = .ok (.invokevirtual 259, 3) := by decide +kernel
theorem d_Mo_makeStep_283 : decode prog_13_method_48_code 283 = .ok (.iconst 0, 1) := by decide +kernel
theorem d_Mo_makeStep_284 : decode prog_13_method_48_code 284 = .ok (.ireturn, 1) := by decide +kernel
theorem d_Mo_makeStep_285 : decode prog_13_method_48_code 285 = .ok (.iload_n 3, 1) := by decide +kernel
theorem d_Mo_makeStep_286 : decode prog_13_method_48_code 286 = .ok (.bipush 12, 2) := by decide +kernel
theorem d_Mo_makeStep_288 : decode prog_13_method_48_code 288 = .ok (.if_icmp .ne 9, 3) := by decide +kernel
theorem d_Mo_makeStep_291 : decode prog_13_method_48_code 291 = .ok (.aload_n 0, 1) := by decide +kernel
theorem d_Mo_makeStep_292 : decode prog_13_method_48_code 292 = .ok (.iload_n 1, 1) := by decide +kernel
theorem d_Mo_makeStep_293 : decode prog_13_method_48_code 293 = .ok (.invokevirtual 270, 3) := by decide +kernel
theorem d_Mo_makeStep_296 : decode prog_13_method_48_code 296 = .ok (.ireturn, 1) := by decide +kernel
theorem d_Mo_makeStep_297 : decode prog_13_method_48_code 297 = .ok (.iload_n 3, 1) := by decide +kernel
theorem d_Mo_makeStep_298 : decode prog_13_method_48_code 298 = .ok (.bipush 7, 2) := by decide +kernel
theorem d_Mo_makeStep_300 : decode prog_13_method_48_code 300 = .ok (.if_icmp .ne 8, 3) := by decide +kernel
theorem d_Mo_makeStep_303 : decode prog_13_method_48_code 303 = .ok (.iload 4, 2) := by decide +kernel
theorem d_Mo_makeStep_305 : decode prog_13_method_48_code 305 = .ok (.goto 44, 3) := by decide +kernel
theorem d_Mo_makeStep_308 : decode prog_13_method_48_code 308 = .ok (.iload_n 3, 1) := by decide +kernel
theorem d_Mo_makeStep_309 : decode prog_13_method_48_code 309 = .ok (.bipush 8, 2) := by decide +kernel
theorem d_Mo_makeStep_311 : decode prog_13_method_48_code 311 = .ok (.if_icmp .eq 9, 3) := by decide +kernel
theorem d_Mo_makeStep_314 : decode prog_13_method_48_code 314 = .ok (.iload_n 3, 1) := by decide +kernel
theorem d_Mo_makeStep_315 : decode prog_13_method_48_code 315 = .ok (.bipush 9, 2) := by decide +kernel
theorem d_Mo_makeStep_317 : decode prog_13_method_48_code 317 = .ok (.if_icmp .ne 24, 3) := by decide +kernel
theorem d_Mo_makeStep_320 : decode prog_13_method_48_code 320 = .ok (.aload_n 0, 1) := by decide +kernel
theorem d_Mo_makeStep_321 : decode prog_13_method_48_code 321 = .ok (.iload_n 1, 1) := by decide +kernel
theorem d_Mo_makeStep_322 : decode prog_13_method_48_code 322 = .ok (.iload_n 3, 1) := by decide +kernel
theorem d_Mo_makeStep_323 : decode prog_13_method_48_code 323 = .ok (.bipush 8, 2) := by decide +kernel
theorem d_Mo_makeStep_325 : decode prog_13_method_48_code 325 = .ok (.if_icmp .ne 7, 3) := by decide +kernel
theorem d_Mo_makeStep_328 : decode prog_13_method_48_code 328 = .ok (.iconst 1, 1) := by decide +kernel
theorem d_Mo_makeStep_329 : decode prog_13_method_48_code 329 = .ok (.goto 4, 3) := by decide +kernel
theorem d_Mo_makeStep_332 : decode prog_13_method_48_code 332 = .ok (.iconst 0, 1) := by decide +kernel
theorem d_Mo_makeStep_333 : decode prog_13_method_48_code 333 = .ok (.iload 4, 2) := by decide +kernel
theorem d_Mo_makeStep_335 : decode prog_13_method_48_code 335 = .ok (.invokevirtual 273, 3) := by decide +kernel
theorem d_Mo_makeStep_338 : decode prog_13_method_48_code 338 = .ok (.goto 11, 3) := by decide +kernel
theorem d_Mo_makeStep_341 : decode prog_13_method_48_code 341 = .ok (.aload_n 0, 1) := by decide +kernel
theorem d_Mo_makeStep_342 : decode prog_13_method_48_code 342 = .ok (.getfield 72, 3) := by decide +kernel
theorem d_Mo_makeStep_345 : decode prog_13_method_48_code 345 = .ok (.iload_n 1, 1) := by decide +kernel
theorem d_Mo_makeStep_346 : decode prog_13_method_48_code 346 = .ok (.iaload, 1) := by decide +kernel
theorem d_Mo_makeStep_347 : decode prog_13_method_48_code 347 = .ok (.iconst 1, 1) := by decide +kernel
theorem d_Mo_makeStep_348 : decode prog_13_method_48_code 348 = .ok (.iadd, 1) := by decide +kernel
theorem d_Mo_makeStep_349 : decode prog_13_method_48_code 349 = .ok (.istore 7, 2) := by decide +kernel
theorem d_Mo_makeStep_351 : decode prog_13_method_48_code 351 = .ok (.aload_n 0, 1) := by decide +kernel
theorem d_Mo_makeStep_352 : decode prog_13_method_48_code 352 = .ok (.iload_n 1, 1) := by decide +kernel
theorem d_Mo_makeStep_353 : decode prog_13_method_48_code 353 = .ok (.iload_n 3, 1) := by decide +kernel
theorem d_Mo_makeStep_354 : decode prog_13_method_48_code 354 = .ok (.iload 4, 2) := by decide +kernel
theorem d_Mo_makeStep_356 : decode prog_13_method_48_code 356 = .ok (.invokevirtual 276, 3) := by decide +kernel
theorem d_Mo_makeStep_359 : decode prog_13_method_48_code 359 = .ok (.ifCond .ne 5, 3) := by decide +kernel
theorem d_Mo_makeStep_362 : decode prog_13_method_48_code 362 = .ok (.iconst 2, 1) := by decide +kernel
theorem d_Mo_makeStep_363 : decode prog_13_method_48_code 363 = .ok (.ireturn, 1) := by decide +kernel
theorem d_Mo_makeStep_364 : decode prog_13_method_48_code 364 = .ok (.iload 7, 2) := by decide +kernel
theorem d_Mo_makeStep_366 : decode prog_13_method_48_code 366 = .ok (.i2l, 1) := by decide +kernel
theorem d_Mo_makeStep_367 : decode prog_13_method_48_code 367 = .ok (.lconst 0, 1) := by decide +kernel
theorem d_Mo_makeStep_368 : decode prog_13_method_48_code 368 = .ok (.aload_n 0, 1) := by decide +kernel
theorem d_Mo_makeStep_369 : decode prog_13_method_48_code 369 = .ok (.getfield 7, 3) := by decide +kernel
theorem d_Mo_makeStep_372 : decode prog_13_method_48_code 372 = .ok (.iload_n 2, 1) := by decide +kernel
theorem d_Mo_makeStep_373 : decode prog_13_method_48_code 373 = .ok (.iaload, 1) := by decide +kernel
theorem d_Mo_makeStep_374 : decode prog_13_method_48_code 374 = .ok (.iconst 1, 1) := by decide +kernel
theorem d_Mo_makeStep_375 : decode prog_13_method_48_code 375 = .ok (.isub, 1) := by decide +kernel
theorem d_Mo_makeStep_376 : decode prog_13_method_48_code 376 = .ok (.i2l, 1) := by decide +kernel
theorem d_Mo_makeStep_377 : decode prog_13_method_48_code 377 = .ok (.invokestatic 86, 3) := by decide +kernel
theorem d_Mo_makeStep_380 : decode prog_13_method_48_code 380 = .ok (.ifCond .ne 5, 3) := by decide +kernel
theorem d_Mo_makeStep_383 : decode prog_13_method_48_code 383 = .ok (.iconst 3, 1) := by decide +kernel
theorem d_Mo_makeStep_384 : decode prog_13_method_48_code 384 = .ok (.ireturn, 1) := by decide +kernel
theorem d_Mo_makeStep_385 : decode prog_13_method_48_code 385 = .ok (.aload_n 0, 1) := by decide +kernel
theorem d_Mo_makeStep_386 : decode prog_13_method_48_code 386 = .ok (.getfield 72, 3) := by decide +kernel
theorem d_Mo_makeStep_389 : decode prog_13_method_48_code 389 = .ok (.iload_n 1, 1) := by decide +kernel
theorem d_Mo_makeStep_390 : decode prog_13_method_48_code 390 = .ok (.iload 7, 2) := by decide +kernel
theorem d_Mo_makeStep_392 : decode prog_13_method_48_code 392 = .ok (.iastore, 1) := by decide +kernel
theorem d_Mo_makeStep_393 : decode prog_13_method_48_code 393 = .ok (.iconst 0, 1) := by decide +kernel
theorem d_Mo_makeStep_394 : decode prog_13_method_48_code 394 = .ok (.ireturn, 1) := by decide +kernel
theorem d_Mo_take_0 : decode prog_13_method_45_code 0 = .ok (.aload_n 0, 1) := by decide +kernel
theorem d_Mo_take_1 : decode prog_13_method_45_code 1 = .ok (.getfield 75, 3) := by decide +kernel
theorem d_Mo_take_4 : decode prog_13_method_45_code 4 = .ok (.iload_n 1, 1) := by decide +kernel
theorem d_Mo_take_5 : decode prog_13_method_45_code 5 = .ok (.dup2, 1) := by decide +kernel
theorem d_Mo_take_6 : decode prog_13_method_45_code 6 = .ok (.iaload, 1) := by decide +kernel
theorem d_Mo_take_7 : decode prog_13_method_45_code 7 = .ok (.iconst 1, 1) := by decide +kernel
theorem d_Mo_take_8 : decode prog_13_method_45_code 8 = .ok (.isub, 1) := by decide +kernel
theorem d_Mo_take_9 : decode prog_13_method_45_code 9 = .ok (.iastore, 1) := by decide +kernel
theorem d_Mo_take_10 : decode prog_13_method_45_code 10 = .ok (.aload_n 0, 1) := by decide +kernel
theorem d_Mo_take_11 : decode prog_13_method_45_code 11 = .ok (.getfield 81, 3) := by decide +kernel
theorem d_Mo_take_14 : decode prog_13_method_45_code 14 = .ok (.bipush 6, 2) := by decide +kernel
theorem d_Mo_take_16 : decode prog_13_method_45_code 16 = .ok (.iload_n 1, 1) := by decide +kernel
theorem d_Mo_take_17 : decode prog_13_method_45_code 17 = .ok (.imul, 1) := by decide +kernel
theorem d_Mo_take_18 : decode prog_13_method_45_code 18 = .ok (.aload_n 0, 1) := by decide +kernel
theorem d_Mo_take_19 : decode prog_13_method_45_code 19 = .ok (.getfield 75, 3) := by decide +kernel
theorem d_Mo_take_22 : decode prog_13_method_45_code 22 = .ok (.iload_n 1, 1) := by decide +kernel
theorem d_Mo_take_23 : decode prog_13_method_45_code 23 = .ok (.iaload, 1) := by decide +kernel
theorem d_Mo_take_24 : decode prog_13_method_45_code 24 = .ok (.iadd, 1) := by decide +kernel
theorem d_Mo_take_25 : decode prog_13_method_45_code 25 = .ok (.iaload, 1) := by decide +kernel
theorem d_Mo_take_26 : decode prog_13_method_45_code 26 = .ok (.ireturn, 1) := by decide +kernel
theorem d_Mo_leave_0 : decode prog_13_method_50_code 0 = .ok (.aload_n 0, 1) := by decide +kernel
theorem d_Mo_leave_1 : decode prog_13_method_50_code 1 = .ok (.iload_n 1, 1) := by decide +kernel
theorem d_Mo_leave_2 : decode prog_13_method_50_code 2 = .ok (.invokevirtual 267, 3) := by decide +kernel
theorem d_Mo_leave_5 : decode prog_13_method_50_code 5 = .ok (.istore_n 2, 1) := by decide +kernel
theorem d_Mo_leave_6 : decode prog_13_method_50_code 6 = .ok (.aload_n 0, 1) := by decide +kernel
theorem d_Mo_leave_7 : decode prog_13_method_50_code 7 = .ok (.dup, 1) := by decide +kernel
theorem d_Mo_leave_8 : decode prog_13_method_50_code 8 = .ok (.getfield 241, 3) := by decide +kernel
theorem d_Mo_leave_11 : decode prog_13_method_50_code 11 = .ok (.iconst 1, 1) := by decide +kernel
theorem d_Mo_leave_12 : decode prog_13_method_50_code 12 = .ok (.isub, 1) := by decide +kernel
theorem d_Mo_leave_13 : decode prog_13_method_50_code 13 = .ok (.putfield 241, 3) := by decide +kernel
theorem d_Mo_leave_16 : decode prog_13_method_50_code 16 = .ok (.iload_n 1, 1) := by decide +kernel
theorem d_Mo_leave_17 : decode prog_13_method_50_code 17 = .ok (.ifCond .ne 10, 3) := by decide +kernel
theorem d_Mo_leave_20 : decode prog_13_method_50_code 20 = .ok (.aload_n 0, 1) := by decide +kernel
theorem d_Mo_leave_21 : decode prog_13_method_50_code 21 = .ok (.iload_n 2, 1) := by decide +kernel
theorem d_Mo_leave_22 : decode prog_13_method_50_code 22 = .ok (.putfield 256, 3) := by decide +kernel
theorem d_Mo_leave_25 : decode prog_13_method_50_code 25 = .ok (.iconst 1, 1) := by decide +kernel
theorem d_Mo_leave_26 : decode prog_13_method_50_code 26 = .ok (.ireturn, 1) := by decide +kernel
theorem d_Mo_leave_27 : decode prog_13_method_50_code 27 = .ok (.aload_n 0, 1) := by decide +kernel
theorem d_Mo_leave_28 : decode prog_13_method_50_code 28 = .ok (.iload_n 1, 1) := by decide +kernel
theorem d_Mo_leave_29 : decode prog_13_method_50_code 29 = .ok (.iconst 1, 1) := by decide +kernel
theorem d_Mo_leave_30 : decode prog_13_method_50_code 30 = .ok (.isub, 1) := by decide +kernel
theorem d_Mo_leave_31 : decode prog_13_method_50_code 31 = .ok (.iload_n 2, 1) := by decide +kernel
theorem d_Mo_leave_32 : decode prog_13_method_50_code 32 = .ok (.invokevirtual 280, 3) := by decide +kernel
theorem d_Mo_leave_35 : decode prog_13_method_50_code 35 = .ok (.aload_n 0, 1) := by decide +kernel
theorem d_Mo_leave_36 : decode prog_13_method_50_code 36 = .ok (.getfield 72, 3) := by decide +kernel
theorem d_Mo_leave_39 : decode prog_13_method_50_code 39 = .ok (.iload_n 1, 1) := by decide +kernel
theorem d_Mo_leave_40 : decode prog_13_method_50_code 40 = .ok (.iconst 1, 1) := by decide +kernel
theorem d_Mo_leave_41 : decode prog_13_method_50_code 41 = .ok (.isub, 1) := by decide +kernel
theorem d_Mo_leave_42 : decode prog_13_method_50_code 42 = .ok (.dup2, 1) := by decide +kernel
theorem d_Mo_leave_43 : decode prog_13_method_50_code 43 = .ok (.iaload, 1) := by decide +kernel
theorem d_Mo_leave_44 : decode prog_13_method_50_code 44 = .ok (.iconst 1, 1) := by decide +kernel
theorem d_Mo_leave_45 : decode prog_13_method_50_code 45 = .ok (.iadd, 1) := by decide +kernel
theorem d_Mo_leave_46 : decode prog_13_method_50_code 46 = .ok (.iastore, 1) := by decide +kernel
theorem d_Mo_leave_47 : decode prog_13_method_50_code 47 = .ok (.aload_n 0, 1) := by decide +kernel
theorem d_Mo_leave_48 : decode prog_13_method_50_code 48 = .ok (.getfield 72, 3) := by decide +kernel
theorem d_Mo_leave_51 : decode prog_13_method_50_code 51 = .ok (.iload_n 1, 1) := by decide +kernel
theorem d_Mo_leave_52 : decode prog_13_method_50_code 52 = .ok (.iconst 1, 1) := by decide +kernel
theorem d_Mo_leave_53 : decode prog_13_method_50_code 53 = .ok (.isub, 1) := by decide +kernel
theorem d_Mo_leave_54 : decode prog_13_method_50_code 54 = .ok (.iaload, 1) := by decide +kernel
theorem d_Mo_leave_55 : decode prog_13_method_50_code 55 = .ok (.aload_n 0, 1) := by decide +kernel
theorem d_Mo_leave_56 : decode prog_13_method_50_code 56 = .ok (.getfield 7, 3) := by decide +kernel
theorem d_Mo_leave_59 : decode prog_13_method_50_code 59 = .ok (.aload_n 0, 1) := by decide +kernel
theorem d_Mo_leave_60 : decode prog_13_method_50_code 60 = .ok (.getfield 69, 3) := by decide +kernel
theorem d_Mo_leave_63 : decode prog_13_method_50_code 63 = .ok (.iload_n 1, 1) := by decide +kernel
theorem d_Mo_leave_64 : decode prog_13_method_50_code 64 = .ok (.iconst 1, 1) := by decide +kernel
theorem d_Mo_leave_65 : decode prog_13_method_50_code 65 = .ok (.isub, 1) := by decide +kernel
theorem d_Mo_leave_66 : decode prog_13_method_50_code 66 = .ok (.iaload, 1) := by decide +kernel
theorem d_Mo_leave_67 : decode prog_13_method_50_code 67 = .ok (.iaload, 1) := by decide +kernel
theorem d_Mo_leave_68 : decode prog_13_method_50_code 68 = .ok (.if_icmp .ge 7, 3) := by decide +kernel
theorem d_Mo_leave_71 : decode prog_13_method_50_code 71 = .ok (.iconst 0, 1) := by decide +kernel
theorem d_Mo_leave_72 : decode prog_13_method_50_code 72 = .ok (.goto 4, 3) := by decide +kernel
theorem d_Mo_leave_75 : decode prog_13_method_50_code 75 = .ok (.iconst 3, 1) := by decide +kernel
theorem d_Mo_leave_76 : decode prog_13_method_50_code 76 = .ok (.ireturn, 1) := by decide +kernel
theorem d_Mo_give_0 : decode prog_13_method_46_code 0 = .ok (.aload_n 0, 1) := by decide +kernel
theorem d_Mo_give_1 : decode prog_13_method_46_code 1 = .ok (.getfield 81, 3) := by decide +kernel
theorem d_Mo_give_4 : decode prog_13_method_46_code 4 = .ok (.bipush 6, 2) := by decide +kernel
theorem d_Mo_give_6 : decode prog_13_method_46_code 6 = .ok (.iload_n 1, 1) := by decide +kernel
theorem d_Mo_give_7 : decode prog_13_method_46_code 7 = .ok (.imul, 1) := by decide +kernel
theorem d_Mo_give_8 : decode prog_13_method_46_code 8 = .ok (.aload_n 0, 1) := by decide +kernel
theorem d_Mo_give_9 : decode prog_13_method_46_code 9 = .ok (.getfield 75, 3) := by decide +kernel
theorem d_Mo_give_12 : decode prog_13_method_46_code 12 = .ok (.iload_n 1, 1) := by decide +kernel
theorem d_Mo_give_13 : decode prog_13_method_46_code 13 = .ok (.iaload, 1) := by decide +kernel
theorem d_Mo_give_14 : decode prog_13_method_46_code 14 = .ok (.iadd, 1) := by decide +kernel
theorem d_Mo_give_15 : decode prog_13_method_46_code 15 = .ok (.iload_n 2, 1) := by decide +kernel
theorem d_Mo_give_16 : decode prog_13_method_46_code 16 = .ok (.iastore, 1) := by decide +kernel
theorem d_Mo_give_17 : decode prog_13_method_46_code 17 = .ok (.aload_n 0, 1) := by decide +kernel
theorem d_Mo_give_18 : decode prog_13_method_46_code 18 = .ok (.getfield 75, 3) := by decide +kernel
theorem d_Mo_give_21 : decode prog_13_method_46_code 21 = .ok (.iload_n 1, 1) := by decide +kernel
theorem d_Mo_give_22 : decode prog_13_method_46_code 22 = .ok (.dup2, 1) := by decide +kernel
theorem d_Mo_give_23 : decode prog_13_method_46_code 23 = .ok (.iaload, 1) := by decide +kernel
theorem d_Mo_give_24 : decode prog_13_method_46_code 24 = .ok (.iconst 1, 1) := by decide +kernel
theorem d_Mo_give_25 : decode prog_13_method_46_code 25 = .ok (.iadd, 1) := by decide +kernel
theorem d_Mo_give_26 : decode prog_13_method_46_code 26 = .ok (.iastore, 1) := by decide +kernel
theorem d_Mo_give_27 : decode prog_13_method_46_code 27 = .ok (.return_, 1) := by decide +kernel
theorem d_Mo_choose_0 : decode prog_13_method_49_code 0 = .ok (.aload_n 0, 1) := by decide +kernel
theorem d_Mo_choose_1 : decode prog_13_method_49_code 1 = .ok (.iload_n 1, 1) := by decide +kernel
theorem d_Mo_choose_2 : decode prog_13_method_49_code 2 = .ok (.invokevirtual 267, 3) := by decide +kernel
theorem d_Mo_choose_5 : decode prog_13_method_49_code 5 = .ok (.istore 4, 2) := by decide +kernel
theorem d_Mo_choose_7 : decode prog_13_method_49_code 7 = .ok (.aload_n 0, 1) := by decide +kernel
theorem d_Mo_choose_8 : decode prog_13_method_49_code 8 = .ok (.iload_n 1, 1) := by decide +kernel
theorem d_Mo_choose_9 : decode prog_13_method_49_code 9 = .ok (.invokevirtual 267, 3) := by decide +kernel
theorem d_Mo_choose_12 : decode prog_13_method_49_code 12 = .ok (.istore 5, 2) := by decide +kernel
theorem d_Mo_choose_14 : decode prog_13_method_49_code 14 = .ok (.iload 5, 2) := by decide +kernel
theorem d_Mo_choose_16 : decode prog_13_method_49_code 16 = .ok (.iload 4, 2) := by decide +kernel
theorem d_Mo_choose_18 : decode prog_13_method_49_code 18 = .ok (.if_icmp .ge 7, 3) := by decide +kernel
theorem d_Mo_choose_21 : decode prog_13_method_49_code 21 = .ok (.iconst 1, 1) := by decide +kernel
theorem d_Mo_choose_22 : decode prog_13_method_49_code 22 = .ok (.goto 4, 3) := by decide +kernel
theorem d_Mo_choose_25 : decode prog_13_method_49_code 25 = .ok (.iconst 0, 1) := by decide +kernel
theorem d_Mo_choose_26 : decode prog_13_method_49_code 26 = .ok (.iload_n 2, 1) := by decide +kernel
theorem d_Mo_choose_27 : decode prog_13_method_49_code 27 = .ok (.if_icmp .ne 7, 3) := by decide +kernel
theorem d_Mo_choose_30 : decode prog_13_method_49_code 30 = .ok (.iload_n 3, 1) := by decide +kernel
theorem d_Mo_choose_31 : decode prog_13_method_49_code 31 = .ok (.goto 11, 3) := by decide +kernel
theorem d_Mo_choose_34 : decode prog_13_method_49_code 34 = .ok (.aload_n 0, 1) := by decide +kernel
theorem d_Mo_choose_35 : decode prog_13_method_49_code 35 = .ok (.getfield 72, 3) := by decide +kernel
theorem d_Mo_choose_38 : decode prog_13_method_49_code 38 = .ok (.iload_n 1, 1) := by decide +kernel
theorem d_Mo_choose_39 : decode prog_13_method_49_code 39 = .ok (.iaload, 1) := by decide +kernel
theorem d_Mo_choose_40 : decode prog_13_method_49_code 40 = .ok (.iconst 1, 1) := by decide +kernel
theorem d_Mo_choose_41 : decode prog_13_method_49_code 41 = .ok (.iadd, 1) := by decide +kernel
theorem d_Mo_choose_42 : decode prog_13_method_49_code 42 = .ok (.ireturn, 1) := by decide +kernel
theorem d_Mo_work_0 : decode prog_13_method_51_code 0 = .ok (.iload_n 2, 1) := by decide +kernel
theorem d_Mo_work_1 : decode prog_13_method_51_code 1 = .ok (.ifCond .ne 9, 3) := by decide +kernel
theorem d_Mo_work_4 : decode prog_13_method_51_code 4 = .ok (.aload_n 0, 1) := by decide +kernel
theorem d_Mo_work_5 : decode prog_13_method_51_code 5 = .ok (.iload_n 1, 1) := by decide +kernel
theorem d_Mo_work_6 : decode prog_13_method_51_code 6 = .ok (.iload_n 3, 1) := by decide +kernel
theorem d_Mo_work_7 : decode prog_13_method_51_code 7 = .ok (.invokevirtual 280, 3) := by decide +kernel
theorem d_Mo_work_10 : decode prog_13_method_51_code 10 = .ok (.iload_n 2, 1) := by decide +kernel
theorem d_Mo_work_11 : decode prog_13_method_51_code 11 = .ok (.iconst 1, 1) := by decide +kernel
theorem d_Mo_work_12 : decode prog_13_method_51_code 12 = .ok (.if_icmp .ne 18, 3) := by decide +kernel
theorem d_Mo_work_15 : decode prog_13_method_51_code 15 = .ok (.aload_n 0, 1) := by decide +kernel
theorem d_Mo_work_16 : decode prog_13_method_51_code 16 = .ok (.iload_n 1, 1) := by decide +kernel
theorem d_Mo_work_17 : decode prog_13_method_51_code 17 = .ok (.aload_n 0, 1) := by decide +kernel
theorem d_Mo_work_18 : decode prog_13_method_51_code 18 = .ok (.getfield 78, 3) := by decide +kernel
theorem d_Mo_work_21 : decode prog_13_method_51_code 21 = .ok (.iconst 4, 1) := by decide +kernel
theorem d_Mo_work_22 : decode prog_13_method_51_code 22 = .ok (.iload_n 1, 1) := by decide +kernel
theorem d_Mo_work_23 : decode prog_13_method_51_code 23 = .ok (.imul, 1) := by decide +kernel
theorem d_Mo_work_24 : decode prog_13_method_51_code 24 = .ok (.iload_n 3, 1) := by decide +kernel
theorem d_Mo_work_25 : decode prog_13_method_51_code 25 = .ok (.iadd, 1) := by decide +kernel
theorem d_Mo_work_26 : decode prog_13_method_51_code 26 = .ok (.iaload, 1) := by decide +kernel
theorem d_Mo_work_27 : decode prog_13_method_51_code 27 = .ok (.invokevirtual 280, 3) := by decide +kernel
theorem d_Mo_work_30 : decode prog_13_method_51_code 30 = .ok (.iload_n 2, 1) := by decide +kernel
theorem d_Mo_work_31 : decode prog_13_method_51_code 31 = .ok (.iconst 2, 1) := by decide +kernel
theorem d_Mo_work_32 : decode prog_13_method_51_code 32 = .ok (.if_icmp .ne 18, 3) := by decide +kernel
theorem d_Mo_work_35 : decode prog_13_method_51_code 35 = .ok (.aload_n 0, 1) := by decide +kernel
theorem d_Mo_work_36 : decode prog_13_method_51_code 36 = .ok (.getfield 78, 3) := by decide +kernel
theorem d_Mo_work_39 : decode prog_13_method_51_code 39 = .ok (.iconst 4, 1) := by decide +kernel
theorem d_Mo_work_40 : decode prog_13_method_51_code 40 = .ok (.iload_n 1, 1) := by decide +kernel
theorem d_Mo_work_41 : decode prog_13_method_51_code 41 = .ok (.imul, 1) := by decide +kernel
theorem d_Mo_work_42 : decode prog_13_method_51_code 42 = .ok (.iload_n 3, 1) := by decide +kernel
theorem d_Mo_work_43 : decode prog_13_method_51_code 43 = .ok (.iadd, 1) := by decide +kernel
theorem d_Mo_work_44 : decode prog_13_method_51_code 44 = .ok (.aload_n 0, 1) := by decide +kernel
theorem d_Mo_work_45 : decode prog_13_method_51_code 45 = .ok (.iload_n 1, 1) := by decide +kernel
theorem d_Mo_work_46 : decode prog_13_method_51_code 46 = .ok (.invokevirtual 267, 3) := by decide +kernel
theorem d_Mo_work_49 : decode prog_13_method_51_code 49 = .ok (.iastore, 1) := by decide +kernel
theorem d_Mo_work_50 : decode prog_13_method_51_code 50 = .ok (.iload_n 2, 1) := by decide +kernel
theorem d_Mo_work_51 : decode prog_13_method_51_code 51 = .ok (.bipush 14, 2) := by decide +kernel
theorem d_Mo_work_53 : decode prog_13_method_51_code 53 = .ok (.if_icmp .ne 9, 3) := by decide +kernel
theorem d_Mo_work_56 : decode prog_13_method_51_code 56 = .ok (.aload_n 0, 1) := by decide +kernel
theorem d_Mo_work_57 : decode prog_13_method_51_code 57 = .ok (.iload_n 1, 1) := by decide +kernel
theorem d_Mo_work_58 : decode prog_13_method_51_code 58 = .ok (.invokevirtual 267, 3) := by decide +kernel
theorem d_Mo_work_61 : decode prog_13_method_51_code 61 = .ok (.pop, 1) := by decide +kernel
theorem d_Mo_work_62 : decode prog_13_method_51_code 62 = .ok (.iload_n 2, 1) := by decide +kernel
theorem d_Mo_work_63 : decode prog_13_method_51_code 63 = .ok (.bipush 13, 2) := by decide +kernel
theorem d_Mo_work_65 : decode prog_13_method_51_code 65 = .ok (.if_icmp .ne 42, 3) := by decide +kernel
theorem d_Mo_work_68 : decode prog_13_method_51_code 68 = .ok (.aload_n 0, 1) := by decide +kernel
theorem d_Mo_work_69 : decode prog_13_method_51_code 69 = .ok (.iload_n 1, 1) := by decide +kernel
theorem d_Mo_work_70 : decode prog_13_method_51_code 70 = .ok (.aload_n 0, 1) := by decide +kernel
theorem d_Mo_work_71 : decode prog_13_method_51_code 71 = .ok (.getfield 247, 3) := by decide +kernel
theorem d_Mo_work_74 : decode prog_13_method_51_code 74 = .ok (.aload_n 0, 1) := by decide +kernel
theorem d_Mo_work_75 : decode prog_13_method_51_code 75 = .ok (.getfield 238, 3) := by decide +kernel
theorem d_Mo_work_78 : decode prog_13_method_51_code 78 = .ok (.if_icmp .ge 15, 3) := by decide +kernel
theorem d_Mo_work_81 : decode prog_13_method_51_code 81 = .ok (.aload_n 0, 1) := by decide +kernel
theorem d_Mo_work_82 : decode prog_13_method_51_code 82 = .ok (.getfield 66, 3) := by decide +kernel
theorem d_Mo_work_85 : decode prog_13_method_51_code 85 = .ok (.aload_n 0, 1) := by decide +kernel
theorem d_Mo_work_86 : decode prog_13_method_51_code 86 = .ok (.getfield 247, 3) := by decide +kernel
theorem d_Mo_work_89 : decode prog_13_method_51_code 89 = .ok (.iaload, 1) := by decide +kernel
theorem d_Mo_work_90 : decode prog_13_method_51_code 90 = .ok (.goto 4, 3) := by decide +kernel
theorem d_Mo_work_93 : decode prog_13_method_51_code 93 = .ok (.iconst 0, 1) := by decide +kernel
theorem d_Mo_work_94 : decode prog_13_method_51_code 94 = .ok (.invokevirtual 280, 3) := by decide +kernel
theorem d_Mo_work_97 : decode prog_13_method_51_code 97 = .ok (.aload_n 0, 1) := by decide +kernel
theorem d_Mo_work_98 : decode prog_13_method_51_code 98 = .ok (.dup, 1) := by decide +kernel
theorem d_Mo_work_99 : decode prog_13_method_51_code 99 = .ok (.getfield 247, 3) := by decide +kernel
theorem d_Mo_work_102 : decode prog_13_method_51_code 102 = .ok (.iconst 1, 1) := by decide +kernel
theorem d_Mo_work_103 : decode prog_13_method_51_code 103 = .ok (.iadd, 1) := by decide +kernel
theorem d_Mo_work_104 : decode prog_13_method_51_code 104 = .ok (.putfield 247, 3) := by decide +kernel
theorem d_Mo_work_107 : decode prog_13_method_51_code 107 = .ok (.iload_n 2, 1) := by decide +kernel
theorem d_Mo_work_108 : decode prog_13_method_51_code 108 = .ok (.iconst 3, 1) := by decide +kernel
theorem d_Mo_work_109 : decode prog_13_method_51_code 109 = .ok (.if_icmp .eq 8, 3) := by decide +kernel
theorem d_Mo_work_112 : decode prog_13_method_51_code 112 = .ok (.iload_n 2, 1) := by decide +kernel
theorem d_Mo_work_113 : decode prog_13_method_51_code 113 = .ok (.iconst 4, 1) := by decide +kernel
theorem d_Mo_work_114 : decode prog_13_method_51_code 114 = .ok (.if_icmp .ne 55, 3) := by decide +kernel
theorem d_Mo_work_117 : decode prog_13_method_51_code 117 = .ok (.aload_n 0, 1) := by decide +kernel
theorem d_Mo_work_118 : decode prog_13_method_51_code 118 = .ok (.iload_n 1, 1) := by decide +kernel
theorem d_Mo_work_119 : decode prog_13_method_51_code 119 = .ok (.invokevirtual 267, 3) := by decide +kernel
theorem d_Mo_work_122 : decode prog_13_method_51_code 122 = .ok (.istore 4, 2) := by decide +kernel
theorem d_Mo_work_124 : decode prog_13_method_51_code 124 = .ok (.aload_n 0, 1) := by decide +kernel
theorem d_Mo_work_125 : decode prog_13_method_51_code 125 = .ok (.iload_n 1, 1) := by decide +kernel
theorem d_Mo_work_126 : decode prog_13_method_51_code 126 = .ok (.invokevirtual 267, 3) := by decide +kernel
theorem d_Mo_work_129 : decode prog_13_method_51_code 129 = .ok (.istore 5, 2) := by decide +kernel
theorem d_Mo_work_131 : decode prog_13_method_51_code 131 = .ok (.iload_n 2, 1) := by decide +kernel
theorem d_Mo_work_132 : decode prog_13_method_51_code 132 = .ok (.iconst 3, 1) := by decide +kernel
theorem d_Mo_work_133 : decode prog_13_method_51_code 133 = .ok (.if_icmp .ne 11, 3) := by decide +kernel
theorem d_Mo_work_136 : decode prog_13_method_51_code 136 = .ok (.iload 5, 2) := by decide +kernel
theorem d_Mo_work_138 : decode prog_13_method_51_code 138 = .ok (.iload 4, 2) := by decide +kernel
theorem d_Mo_work_140 : decode prog_13_method_51_code 140 = .ok (.iadd, 1) := by decide +kernel
theorem d_Mo_work_141 : decode prog_13_method_51_code 141 = .ok (.goto 8, 3) := by decide +kernel
theorem d_Mo_work_144 : decode prog_13_method_51_code 144 = .ok (.iload 5, 2) := by decide +kernel
theorem d_Mo_work_146 : decode prog_13_method_51_code 146 = .ok (.iload 4, 2) := by decide +kernel
theorem d_Mo_work_148 : decode prog_13_method_51_code 148 = .ok (.isub, 1) := by decide +kernel
theorem d_Mo_work_149 : decode prog_13_method_51_code 149 = .ok (.istore 6, 2) := by decide +kernel
theorem d_Mo_work_151 : decode prog_13_method_51_code 151 = .ok (.iload 6, 2) := by decide +kernel
theorem d_Mo_work_153 : decode prog_13_method_51_code 153 = .ok (.i2l, 1) := by decide +kernel
theorem d_Mo_work_154 : decode prog_13_method_51_code 154 = .ok (.invokestatic 283, 3) := by decide +kernel
theorem d_Mo_work_157 : decode prog_13_method_51_code 157 = .ok (.ifCond .ne 5, 3) := by decide +kernel
theorem d_Mo_work_160 : decode prog_13_method_51_code 160 = .ok (.iconst 0, 1) := by decide +kernel
theorem d_Mo_work_161 : decode prog_13_method_51_code 161 = .ok (.ireturn, 1) := by decide +kernel
theorem d_Mo_work_162 : decode prog_13_method_51_code 162 = .ok (.aload_n 0, 1) := by decide +kernel
theorem d_Mo_work_163 : decode prog_13_method_51_code 163 = .ok (.iload_n 1, 1) := by decide +kernel
theorem d_Mo_work_164 : decode prog_13_method_51_code 164 = .ok (.iload 6, 2) := by decide +kernel
theorem d_Mo_work_166 : decode prog_13_method_51_code 166 = .ok (.invokevirtual 280, 3) := by decide +kernel
theorem d_Mo_work_169 : decode prog_13_method_51_code 169 = .ok (.iload_n 2, 1) := by decide +kernel
theorem d_Mo_work_170 : decode prog_13_method_51_code 170 = .ok (.iconst 5, 1) := by decide +kernel
theorem d_Mo_work_171 : decode prog_13_method_51_code 171 = .ok (.if_icmp .eq 9, 3) := by decide +kernel
theorem d_Mo_work_174 : decode prog_13_method_51_code 174 = .ok (.iload_n 2, 1) := by decide +kernel
theorem d_Mo_work_175 : decode prog_13_method_51_code 175 = .ok (.bipush 6, 2) := by decide +kernel
theorem d_Mo_work_177 : decode prog_13_method_51_code 177 = .ok (.if_icmp .ne 44, 3) := by decide +kernel
theorem d_Mo_work_180 : decode prog_13_method_51_code 180 = .ok (.aload_n 0, 1) := by decide +kernel
theorem d_Mo_work_181 : decode prog_13_method_51_code 181 = .ok (.getfield 78, 3) := by decide +kernel
theorem d_Mo_work_184 : decode prog_13_method_51_code 184 = .ok (.iconst 4, 1) := by decide +kernel
theorem d_Mo_work_185 : decode prog_13_method_51_code 185 = .ok (.iload_n 1, 1) := by decide +kernel
theorem d_Mo_work_186 : decode prog_13_method_51_code 186 = .ok (.imul, 1) := by decide +kernel
theorem d_Mo_work_187 : decode prog_13_method_51_code 187 = .ok (.iload_n 2, 1) := by decide +kernel
theorem d_Mo_work_188 : decode prog_13_method_51_code 188 = .ok (.iadd, 1) := by decide +kernel
theorem d_Mo_work_189 : decode prog_13_method_51_code 189 = .ok (.iconst 5, 1) := by decide +kernel
theorem d_Mo_work_190 : decode prog_13_method_51_code 190 = .ok (.isub, 1) := by decide +kernel
theorem d_Mo_work_191 : decode prog_13_method_51_code 191 = .ok (.iaload, 1) := by decide +kernel
theorem d_Mo_work_192 : decode prog_13_method_51_code 192 = .ok (.iload_n 3, 1) := by decide +kernel
theorem d_Mo_work_193 : decode prog_13_method_51_code 193 = .ok (.iadd, 1) := by decide +kernel
theorem d_Mo_work_194 : decode prog_13_method_51_code 194 = .ok (.istore 4, 2) := by decide +kernel
theorem d_Mo_work_196 : decode prog_13_method_51_code 196 = .ok (.iload 4, 2) := by decide +kernel
theorem d_Mo_work_198 : decode prog_13_method_51_code 198 = .ok (.i2l, 1) := by decide +kernel
theorem d_Mo_work_199 : decode prog_13_method_51_code 199 = .ok (.invokestatic 283, 3) := by decide +kernel
theorem d_Mo_work_202 : decode prog_13_method_51_code 202 = .ok (.ifCond .ne 5, 3) := by decide +kernel
theorem d_Mo_work_205 : decode prog_13_method_51_code 205 = .ok (.iconst 0, 1) := by decide +kernel
theorem d_Mo_work_206 : decode prog_13_method_51_code 206 = .ok (.ireturn, 1) := by decide +kernel
theorem d_Mo_work_207 : decode prog_13_method_51_code 207 = .ok (.aload_n 0, 1) := by decide +kernel
theorem d_Mo_work_208 : decode prog_13_method_51_code 208 = .ok (.getfield 78, 3) := by decide +kernel
theorem d_Mo_work_211 : decode prog_13_method_51_code 211 = .ok (.iconst 4, 1) := by decide +kernel
theorem d_Mo_work_212 : decode prog_13_method_51_code 212 = .ok (.iload_n 1, 1) := by decide +kernel
theorem d_Mo_work_213 : decode prog_13_method_51_code 213 = .ok (.imul, 1) := by decide +kernel
theorem d_Mo_work_214 : decode prog_13_method_51_code 214 = .ok (.iload_n 2, 1) := by decide +kernel
theorem d_Mo_work_215 : decode prog_13_method_51_code 215 = .ok (.iadd, 1) := by decide +kernel
theorem d_Mo_work_216 : decode prog_13_method_51_code 216 = .ok (.iconst 5, 1) := by decide +kernel
theorem d_Mo_work_217 : decode prog_13_method_51_code 217 = .ok (.isub, 1) := by decide +kernel
theorem d_Mo_work_218 : decode prog_13_method_51_code 218 = .ok (.iload 4, 2) := by decide +kernel
theorem d_Mo_work_220 : decode prog_13_method_51_code 220 = .ok (.iastore, 1) := by decide +kernel
theorem d_Mo_work_221 : decode prog_13_method_51_code 221 = .ok (.iload_n 2, 1) := by decide +kernel
theorem d_Mo_work_222 : decode prog_13_method_51_code 222 = .ok (.bipush 10, 2) := by decide +kernel
theorem d_Mo_work_224 : decode prog_13_method_51_code 224 = .ok (.if_icmp .ne 45, 3) := by decide +kernel
theorem d_Mo_work_227 : decode prog_13_method_51_code 227 = .ok (.aload_n 0, 1) := by decide +kernel
theorem d_Mo_work_228 : decode prog_13_method_51_code 228 = .ok (.iload_n 1, 1) := by decide +kernel
theorem d_Mo_work_229 : decode prog_13_method_51_code 229 = .ok (.invokevirtual 267, 3) := by decide +kernel
theorem d_Mo_work_232 : decode prog_13_method_51_code 232 = .ok (.istore 4, 2) := by decide +kernel
theorem d_Mo_work_234 : decode prog_13_method_51_code 234 = .ok (.iload 4, 2) := by decide +kernel
theorem d_Mo_work_236 : decode prog_13_method_51_code 236 = .ok (.ifCond .lt 18, 3) := by decide +kernel
theorem d_Mo_work_239 : decode prog_13_method_51_code 239 = .ok (.aload_n 0, 1) := by decide +kernel
theorem d_Mo_work_240 : decode prog_13_method_51_code 240 = .ok (.getfield 253, 3) := by decide +kernel
theorem d_Mo_work_243 : decode prog_13_method_51_code 243 = .ok (.iload 4, 2) := by decide +kernel
theorem d_Mo_work_245 : decode prog_13_method_51_code 245 = .ok (.iadd, 1) := by decide +kernel
theorem d_Mo_work_246 : decode prog_13_method_51_code 246 = .ok (.iconst 2, 1) := by decide +kernel
theorem d_Mo_work_247 : decode prog_13_method_51_code 247 = .ok (.iadd, 1) := by decide +kernel
theorem d_Mo_work_248 : decode prog_13_method_51_code 248 = .ok (.ldc_w 287, 3) := by decide +kernel
theorem d_Mo_work_251 : decode prog_13_method_51_code 251 = .ok (.if_icmp .le 5, 3) := by decide +kernel
theorem d_Mo_work_254 : decode prog_13_method_51_code 254 = .ok (.iconst 0, 1) := by decide +kernel
theorem d_Mo_work_255 : decode prog_13_method_51_code 255 = .ok (.ireturn, 1) := by decide +kernel
theorem d_Mo_work_256 : decode prog_13_method_51_code 256 = .ok (.aload_n 0, 1) := by decide +kernel
theorem d_Mo_work_257 : decode prog_13_method_51_code 257 = .ok (.dup, 1) := by decide +kernel
theorem d_Mo_work_258 : decode prog_13_method_51_code 258 = .ok (.getfield 253, 3) := by decide +kernel
theorem d_Mo_work_261 : decode prog_13_method_51_code 261 = .ok (.iload 4, 2) := by decide +kernel
theorem d_Mo_work_263 : decode prog_13_method_51_code 263 = .ok (.iconst 2, 1) := by decide +kernel
theorem d_Mo_work_264 : decode prog_13_method_51_code 264 = .ok (.iadd, 1) := by decide +kernel
theorem d_Mo_work_265 : decode prog_13_method_51_code 265 = .ok (.iadd, 1) := by decide +kernel
theorem d_Mo_work_266 : decode prog_13_method_51_code 266 = .ok (.putfield 253, 3) := by decide +kernel
theorem d_Mo_work_269 : decode prog_13_method_51_code 269 = .ok (.iconst 1, 1) := by decide +kernel
theorem d_Mo_work_270 : decode prog_13_method_51_code 270 = .ok (.ireturn, 1) := by decide +kernel
theorem d_Mo_fits_0 : decode prog_13_method_47_code 0 = .ok (.lload_n 0, 1) := by decide +kernel
theorem d_Mo_fits_1 : decode prog_13_method_47_code 1 = .ok (.ldc2_w 222, 3) := by decide +kernel
theorem d_Mo_fits_4 : decode prog_13_method_47_code 4 = .ok (.ldc2_w 224, 3) := by decide +kernel
theorem d_Mo_fits_7 : decode prog_13_method_47_code 7 = .ok (.invokestatic 86, 3) := by decide +kernel
theorem d_Mo_fits_10 : decode prog_13_method_47_code 10 = .ok (.ireturn, 1) := by decide +kernel
theorem d_Mo_ran_0 : decode prog_13_method_52_code 0 = .ok (.iload_n 1, 1) := by decide +kernel
theorem d_Mo_ran_1 : decode prog_13_method_52_code 1 = .ok (.tableswitch 51 0 3 #[31, 36, 41, 46], 31) := by decide +kernel
theorem d_Mo_ran_32 : decode prog_13_method_52_code 32 = .ok (.aload_n 0, 1) := by decide +kernel
theorem d_Mo_ran_33 : decode prog_13_method_52_code 33 = .ok (.getfield 250, 3) := by decide +kernel
theorem d_Mo_ran_36 : decode prog_13_method_52_code 36 = .ok (.ireturn, 1) := by decide +kernel
theorem d_Mo_ran_37 : decode prog_13_method_52_code 37 = .ok (.aload_n 0, 1) := by decide +kernel
theorem d_Mo_ran_38 : decode prog_13_method_52_code 38 = .ok (.getfield 253, 3) := by decide +kernel
theorem d_Mo_ran_41 : decode prog_13_method_52_code 41 = .ok (.ireturn, 1) := by decide +kernel
theorem d_Mo_ran_42 : decode prog_13_method_52_code 42 = .ok (.aload_n 0, 1) := by decide +kernel
theorem d_Mo_ran_43 : decode prog_13_method_52_code 43 = .ok (.getfield 244, 3) := by decide +kernel
theorem d_Mo_ran_46 : decode prog_13_method_52_code 46 = .ok (.ireturn, 1) := by decide +kernel
theorem d_Mo_ran_47 : decode prog_13_method_52_code 47 = .ok (.aload_n 0, 1) := by decide +kernel
theorem d_Mo_ran_48 : decode prog_13_method_52_code 48 = .ok (.getfield 256, 3) := by decide +kernel
theorem d_Mo_ran_51 : decode prog_13_method_52_code 51 = .ok (.ireturn, 1) := by decide +kernel
theorem d_Mo_ran_52 : decode prog_13_method_52_code 52 = .ok (.iconst (-1), 1) := by decide +kernel
theorem d_Mo_ran_53 : decode prog_13_method_52_code 53 = .ok (.ireturn, 1) := by decide +kernel
