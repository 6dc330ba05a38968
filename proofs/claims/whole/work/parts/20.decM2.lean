section DEC
theorem d_M_finger_42 : decode b_M_finger 42 = .ok (.iconst 4, 1) := by decide +kernel
theorem d_M_finger_43 : decode b_M_finger 43 = .ok (.aload_n 0, 1) := by decide +kernel
theorem d_M_finger_44 : decode b_M_finger 44 = .ok (.getfield 38, 3) := by decide +kernel
theorem d_M_finger_47 : decode b_M_finger 47 = .ok (.imul, 1) := by decide +kernel
theorem d_M_finger_48 : decode b_M_finger 48 = .ok (.istore_n 2, 1) := by decide +kernel
theorem d_M_finger_49 : decode b_M_finger 49 = .ok (.iload_n 1, 1) := by decide +kernel
theorem d_M_finger_50 : decode b_M_finger 50 = .ok (.aload_n 0, 1) := by decide +kernel
theorem d_M_finger_51 : decode b_M_finger 51 = .ok (.getfield 26, 3) := by decide +kernel
theorem d_M_finger_54 : decode b_M_finger 54 = .ok (.iload_n 2, 1) := by decide +kernel
theorem d_M_finger_55 : decode b_M_finger 55 = .ok (.iconst 2, 1) := by decide +kernel
theorem d_M_finger_56 : decode b_M_finger 56 = .ok (.iadd, 1) := by decide +kernel
theorem d_M_finger_57 : decode b_M_finger 57 = .ok (.iaload, 1) := by decide +kernel
theorem d_M_finger_58 : decode b_M_finger 58 = .ok (.invokestatic 135, 3) := by decide +kernel
theorem d_M_finger_61 : decode b_M_finger 61 = .ok (.aload_n 0, 1) := by decide +kernel
theorem d_M_finger_62 : decode b_M_finger 62 = .ok (.getfield 7, 3) := by decide +kernel
theorem d_M_finger_65 : decode b_M_finger 65 = .ok (.iconst 4, 1) := by decide +kernel
theorem d_M_finger_66 : decode b_M_finger 66 = .ok (.iaload, 1) := by decide +kernel
theorem d_M_finger_67 : decode b_M_finger 67 = .ok (.if_icmp .le 22, 3) := by decide +kernel
theorem d_M_finger_70 : decode b_M_finger 70 = .ok (.aload_n 0, 1) := by decide +kernel
theorem d_M_finger_71 : decode b_M_finger 71 = .ok (.iconst 3, 1) := by decide +kernel
theorem d_M_finger_72 : decode b_M_finger 72 = .ok (.invokevirtual 128, 3) := by decide +kernel
theorem d_M_finger_75 : decode b_M_finger 75 = .ok (.aload_n 0, 1) := by decide +kernel
theorem d_M_finger_76 : decode b_M_finger 76 = .ok (.iconst 5, 1) := by decide +kernel
theorem d_M_finger_77 : decode b_M_finger 77 = .ok (.aload_n 0, 1) := by decide +kernel
theorem d_M_finger_78 : decode b_M_finger 78 = .ok (.getfield 38, 3) := by decide +kernel
theorem d_M_finger_81 : decode b_M_finger 81 = .ok (.invokevirtual 122, 3) := by decide +kernel
theorem d_M_finger_84 : decode b_M_finger 84 = .ok (.aload_n 0, 1) := by decide +kernel
theorem d_M_finger_85 : decode b_M_finger 85 = .ok (.getfield 113, 3) := by decide +kernel
theorem d_M_finger_88 : decode b_M_finger 88 = .ok (.ireturn, 1) := by decide +kernel
theorem d_M_finger_89 : decode b_M_finger 89 = .ok (.aload_n 0, 1) := by decide +kernel
theorem d_M_finger_90 : decode b_M_finger 90 = .ok (.getfield 26, 3) := by decide +kernel
theorem d_M_finger_93 : decode b_M_finger 93 = .ok (.iload_n 2, 1) := by decide +kernel
theorem d_M_finger_94 : decode b_M_finger 94 = .ok (.iconst 1, 1) := by decide +kernel
theorem d_M_finger_95 : decode b_M_finger 95 = .ok (.iadd, 1) := by decide +kernel
theorem d_M_finger_96 : decode b_M_finger 96 = .ok (.iaload, 1) := by decide +kernel
theorem d_M_finger_97 : decode b_M_finger 97 = .ok (.iconst 4, 1) := by decide +kernel
theorem d_M_finger_98 : decode b_M_finger 98 = .ok (.idiv, 1) := by decide +kernel
theorem d_M_finger_99 : decode b_M_finger 99 = .ok (.aload_n 0, 1) := by decide +kernel
theorem d_M_finger_100 : decode b_M_finger 100 = .ok (.getfield 7, 3) := by decide +kernel
theorem d_M_finger_103 : decode b_M_finger 103 = .ok (.iconst 5, 1) := by decide +kernel
theorem d_M_finger_104 : decode b_M_finger 104 = .ok (.iaload, 1) := by decide +kernel
theorem d_M_finger_105 : decode b_M_finger 105 = .ok (.if_icmp .ge 16, 3) := by decide +kernel
theorem d_M_finger_108 : decode b_M_finger 108 = .ok (.aload_n 0, 1) := by decide +kernel
theorem d_M_finger_109 : decode b_M_finger 109 = .ok (.getfield 26, 3) := by decide +kernel
theorem d_M_finger_112 : decode b_M_finger 112 = .ok (.iload_n 2, 1) := by decide +kernel
theorem d_M_finger_113 : decode b_M_finger 113 = .ok (.iconst 1, 1) := by decide +kernel
theorem d_M_finger_114 : decode b_M_finger 114 = .ok (.iadd, 1) := by decide +kernel
theorem d_M_finger_115 : decode b_M_finger 115 = .ok (.iaload, 1) := by decide +kernel
theorem d_M_finger_116 : decode b_M_finger 116 = .ok (.iconst 4, 1) := by decide +kernel
theorem d_M_finger_117 : decode b_M_finger 117 = .ok (.idiv, 1) := by decide +kernel
theorem d_M_finger_118 : decode b_M_finger 118 = .ok (.goto 9, 3) := by decide +kernel
theorem d_M_finger_121 : decode b_M_finger 121 = .ok (.aload_n 0, 1) := by decide +kernel
theorem d_M_finger_122 : decode b_M_finger 122 = .ok (.getfield 7, 3) := by decide +kernel
theorem d_M_finger_125 : decode b_M_finger 125 = .ok (.iconst 5, 1) := by decide +kernel
theorem d_M_finger_126 : decode b_M_finger 126 = .ok (.iaload, 1) := by decide +kernel
theorem d_M_finger_127 : decode b_M_finger 127 = .ok (.istore_n 3, 1) := by decide +kernel
theorem d_M_finger_128 : decode b_M_finger 128 = .ok (.aload_n 0, 1) := by decide +kernel
theorem d_M_finger_129 : decode b_M_finger 129 = .ok (.getfield 93, 3) := by decide +kernel
theorem d_M_finger_132 : decode b_M_finger 132 = .ok (.aload_n 0, 1) := by decide +kernel
theorem d_M_finger_133 : decode b_M_finger 133 = .ok (.getfield 7, 3) := by decide +kernel
theorem d_M_finger_136 : decode b_M_finger 136 = .ok (.iconst 3, 1) := by decide +kernel
theorem d_M_finger_137 : decode b_M_finger 137 = .ok (.iaload, 1) := by decide +kernel
theorem d_M_finger_138 : decode b_M_finger 138 = .ok (.iadd, 1) := by decide +kernel
theorem d_M_finger_139 : decode b_M_finger 139 = .ok (.ldc 62, 2) := by decide +kernel
theorem d_M_finger_141 : decode b_M_finger 141 = .ok (.if_icmp .ge 17, 3) := by decide +kernel
theorem d_M_finger_144 : decode b_M_finger 144 = .ok (.aload_n 0, 1) := by decide +kernel
theorem d_M_finger_145 : decode b_M_finger 145 = .ok (.getfield 93, 3) := by decide +kernel
theorem d_M_finger_148 : decode b_M_finger 148 = .ok (.aload_n 0, 1) := by decide +kernel
theorem d_M_finger_149 : decode b_M_finger 149 = .ok (.getfield 7, 3) := by decide +kernel
theorem d_M_finger_152 : decode b_M_finger 152 = .ok (.iconst 3, 1) := by decide +kernel
theorem d_M_finger_153 : decode b_M_finger 153 = .ok (.iaload, 1) := by decide +kernel
theorem d_M_finger_154 : decode b_M_finger 154 = .ok (.iadd, 1) := by decide +kernel
theorem d_M_finger_155 : decode b_M_finger 155 = .ok (.goto 5, 3) := by decide +kernel
theorem d_M_finger_158 : decode b_M_finger 158 = .ok (.ldc 62, 2) := by decide +kernel
theorem d_M_finger_160 : decode b_M_finger 160 = .ok (.istore 4, 2) := by decide +kernel
theorem d_M_finger_162 : decode b_M_finger 162 = .ok (.aload_n 0, 1) := by decide +kernel
theorem d_M_finger_163 : decode b_M_finger 163 = .ok (.iload_n 2, 1) := by decide +kernel
theorem d_M_finger_164 : decode b_M_finger 164 = .ok (.iconst 3, 1) := by decide +kernel
theorem d_M_finger_165 : decode b_M_finger 165 = .ok (.iadd, 1) := by decide +kernel
theorem d_M_finger_166 : decode b_M_finger 166 = .ok (.bipush 6, 2) := by decide +kernel
theorem d_M_finger_168 : decode b_M_finger 168 = .ok (.aload_n 0, 1) := by decide +kernel
theorem d_M_finger_169 : decode b_M_finger 169 = .ok (.getfield 23, 3) := by decide +kernel
theorem d_M_finger_172 : decode b_M_finger 172 = .ok (.iload_n 2, 1) := by decide +kernel
theorem d_M_finger_173 : decode b_M_finger 173 = .ok (.iconst 1, 1) := by decide +kernel
theorem d_M_finger_174 : decode b_M_finger 174 = .ok (.iadd, 1) := by decide +kernel
theorem d_M_finger_175 : decode b_M_finger 175 = .ok (.iaload, 1) := by decide +kernel
theorem d_M_finger_176 : decode b_M_finger 176 = .ok (.iconst 4, 1) := by decide +kernel
theorem d_M_finger_177 : decode b_M_finger 177 = .ok (.iload_n 3, 1) := by decide +kernel
theorem d_M_finger_178 : decode b_M_finger 178 = .ok (.imul, 1) := by decide +kernel
theorem d_M_finger_179 : decode b_M_finger 179 = .ok (.aload_n 0, 1) := by decide +kernel
theorem d_M_finger_180 : decode b_M_finger 180 = .ok (.getfield 26, 3) := by decide +kernel
theorem d_M_finger_183 : decode b_M_finger 183 = .ok (.iload_n 2, 1) := by decide +kernel
theorem d_M_finger_184 : decode b_M_finger 184 = .ok (.iconst 1, 1) := by decide +kernel
theorem d_M_finger_185 : decode b_M_finger 185 = .ok (.iadd, 1) := by decide +kernel
theorem d_M_finger_186 : decode b_M_finger 186 = .ok (.iaload, 1) := by decide +kernel
theorem d_M_finger_187 : decode b_M_finger 187 = .ok (.iconst 4, 1) := by decide +kernel
theorem d_M_finger_188 : decode b_M_finger 188 = .ok (.irem, 1) := by decide +kernel
theorem d_M_finger_189 : decode b_M_finger 189 = .ok (.iadd, 1) := by decide +kernel
theorem d_M_finger_190 : decode b_M_finger 190 = .ok (.aload_n 0, 1) := by decide +kernel
theorem d_M_finger_191 : decode b_M_finger 191 = .ok (.getfield 93, 3) := by decide +kernel
theorem d_M_finger_194 : decode b_M_finger 194 = .ok (.iload 4, 2) := by decide +kernel
theorem d_M_finger_196 : decode b_M_finger 196 = .ok (.invokevirtual 89, 3) := by decide +kernel
theorem d_M_finger_199 : decode b_M_finger 199 = .ok (.aload_n 0, 1) := by decide +kernel
theorem d_M_finger_200 : decode b_M_finger 200 = .ok (.iconst 4, 1) := by decide +kernel
theorem d_M_finger_201 : decode b_M_finger 201 = .ok (.aload_n 0, 1) := by decide +kernel
theorem d_M_finger_202 : decode b_M_finger 202 = .ok (.getfield 38, 3) := by decide +kernel
theorem d_M_finger_205 : decode b_M_finger 205 = .ok (.invokevirtual 122, 3) := by decide +kernel
theorem d_M_finger_208 : decode b_M_finger 208 = .ok (.aload_n 0, 1) := by decide +kernel
theorem d_M_finger_209 : decode b_M_finger 209 = .ok (.iconst 2, 1) := by decide +kernel
theorem d_M_finger_210 : decode b_M_finger 210 = .ok (.invokevirtual 128, 3) := by decide +kernel
theorem d_M_finger_213 : decode b_M_finger 213 = .ok (.aload_n 0, 1) := by decide +kernel
theorem d_M_finger_214 : decode b_M_finger 214 = .ok (.bipush 7, 2) := by decide +kernel
theorem d_M_finger_216 : decode b_M_finger 216 = .ok (.aload_n 0, 1) := by decide +kernel
theorem d_M_finger_217 : decode b_M_finger 217 = .ok (.getfield 38, 3) := by decide +kernel
theorem d_M_finger_220 : decode b_M_finger 220 = .ok (.invokevirtual 122, 3) := by decide +kernel
theorem d_M_finger_223 : decode b_M_finger 223 = .ok (.aload_n 0, 1) := by decide +kernel
theorem d_M_finger_224 : decode b_M_finger 224 = .ok (.getfield 113, 3) := by decide +kernel
theorem d_M_finger_227 : decode b_M_finger 227 = .ok (.ireturn, 1) := by decide +kernel
theorem d_M_unlock_0 : decode b_M_unlock 0 = .ok (.aload_n 0, 1) := by decide +kernel
theorem d_M_unlock_1 : decode b_M_unlock 1 = .ok (.aload_n 0, 1) := by decide +kernel
theorem d_M_unlock_2 : decode b_M_unlock 2 = .ok (.getfield 93, 3) := by decide +kernel
theorem d_M_unlock_5 : decode b_M_unlock 5 = .ok (.aload_n 0, 1) := by decide +kernel
theorem d_M_unlock_6 : decode b_M_unlock 6 = .ok (.getfield 7, 3) := by decide +kernel
theorem d_M_unlock_9 : decode b_M_unlock 9 = .ok (.iconst 0, 1) := by decide +kernel
theorem d_M_unlock_10 : decode b_M_unlock 10 = .ok (.iaload, 1) := by decide +kernel
theorem d_M_unlock_11 : decode b_M_unlock 11 = .ok (.iadd, 1) := by decide +kernel
theorem d_M_unlock_12 : decode b_M_unlock 12 = .ok (.putfield 139, 3) := by decide +kernel
theorem d_M_unlock_15 : decode b_M_unlock 15 = .ok (.aload_n 0, 1) := by decide +kernel
theorem d_M_unlock_16 : decode b_M_unlock 16 = .ok (.aload_n 0, 1) := by decide +kernel
theorem d_M_unlock_17 : decode b_M_unlock 17 = .ok (.getfield 139, 3) := by decide +kernel
theorem d_M_unlock_20 : decode b_M_unlock 20 = .ok (.aload_n 0, 1) := by decide +kernel
theorem d_M_unlock_21 : decode b_M_unlock 21 = .ok (.getfield 7, 3) := by decide +kernel
theorem d_M_unlock_24 : decode b_M_unlock 24 = .ok (.iconst 1, 1) := by decide +kernel
theorem d_M_unlock_25 : decode b_M_unlock 25 = .ok (.iaload, 1) := by decide +kernel
theorem d_M_unlock_26 : decode b_M_unlock 26 = .ok (.iadd, 1) := by decide +kernel
theorem d_M_unlock_27 : decode b_M_unlock 27 = .ok (.putfield 142, 3) := by decide +kernel
theorem d_M_unlock_30 : decode b_M_unlock 30 = .ok (.return_, 1) := by decide +kernel
theorem d_M_remove_0 : decode b_M_remove 0 = .ok (.aload_n 0, 1) := by decide +kernel
theorem d_M_remove_1 : decode b_M_remove 1 = .ok (.iconst 0, 1) := by decide +kernel
theorem d_M_remove_2 : decode b_M_remove 2 = .ok (.putfield 54, 3) := by decide +kernel
theorem d_M_remove_5 : decode b_M_remove 5 = .ok (.aload_n 0, 1) := by decide +kernel
theorem d_M_remove_6 : decode b_M_remove 6 = .ok (.getfield 99, 3) := by decide +kernel
theorem d_M_remove_9 : decode b_M_remove 9 = .ok (.ifCond .eq 10, 3) := by decide +kernel
theorem d_M_remove_12 : decode b_M_remove 12 = .ok (.aload_n 0, 1) := by decide +kernel
theorem d_M_remove_13 : decode b_M_remove 13 = .ok (.getfield 38, 3) := by decide +kernel
theorem d_M_remove_16 : decode b_M_remove 16 = .ok (.ifCond .ge 9, 3) := by decide +kernel
theorem d_M_remove_19 : decode b_M_remove 19 = .ok (.aload_n 0, 1) := by decide +kernel
theorem d_M_remove_20 : decode b_M_remove 20 = .ok (.iconst 1, 1) := by decide +kernel
theorem d_M_remove_21 : decode b_M_remove 21 = .ok (.invokevirtual 81, 3) := by decide +kernel
theorem d_M_remove_24 : decode b_M_remove 24 = .ok (.ireturn, 1) := by decide +kernel
theorem d_M_remove_25 : decode b_M_remove 25 = .ok (.aload_n 0, 1) := by decide +kernel
theorem d_M_remove_26 : decode b_M_remove 26 = .ok (.getfield 38, 3) := by decide +kernel
theorem d_M_remove_29 : decode b_M_remove 29 = .ok (.istore_n 1, 1) := by decide +kernel
theorem d_M_remove_30 : decode b_M_remove 30 = .ok (.aload_n 0, 1) := by decide +kernel
theorem d_M_remove_31 : decode b_M_remove 31 = .ok (.getfield 113, 3) := by decide +kernel
theorem d_M_remove_34 : decode b_M_remove 34 = .ok (.iconst 2, 1) := by decide +kernel
theorem d_M_remove_35 : decode b_M_remove 35 = .ok (.if_icmp .ne 7, 3) := by decide +kernel
theorem d_M_remove_38 : decode b_M_remove 38 = .ok (.aload_n 0, 1) := by decide +kernel
theorem d_M_remove_39 : decode b_M_remove 39 = .ok (.invokevirtual 145, 3) := by decide +kernel
theorem d_M_remove_42 : decode b_M_remove 42 = .ok (.aload_n 0, 1) := by decide +kernel
theorem d_M_remove_43 : decode b_M_remove 43 = .ok (.getfield 113, 3) := by decide +kernel
theorem d_M_remove_46 : decode b_M_remove 46 = .ok (.iconst 1, 1) := by decide +kernel
theorem d_M_remove_47 : decode b_M_remove 47 = .ok (.if_icmp .ne 10, 3) := by decide +kernel
theorem d_M_remove_50 : decode b_M_remove 50 = .ok (.aload_n 0, 1) := by decide +kernel
theorem d_M_remove_51 : decode b_M_remove 51 = .ok (.bipush 8, 2) := by decide +kernel
theorem d_M_remove_53 : decode b_M_remove 53 = .ok (.iload_n 1, 1) := by decide +kernel
theorem d_M_remove_54 : decode b_M_remove 54 = .ok (.invokevirtual 122, 3) := by decide +kernel
theorem d_M_remove_57 : decode b_M_remove 57 = .ok (.aload_n 0, 1) := by decide +kernel
theorem d_M_remove_58 : decode b_M_remove 58 = .ok (.iconst (-1), 1) := by decide +kernel
theorem d_M_remove_59 : decode b_M_remove 59 = .ok (.putfield 38, 3) := by decide +kernel
theorem d_M_remove_62 : decode b_M_remove 62 = .ok (.aload_n 0, 1) := by decide +kernel
theorem d_M_remove_63 : decode b_M_remove 63 = .ok (.iconst 0, 1) := by decide +kernel
theorem d_M_remove_64 : decode b_M_remove 64 = .ok (.invokevirtual 128, 3) := by decide +kernel
theorem d_M_remove_67 : decode b_M_remove 67 = .ok (.iload_n 1, 1) := by decide +kernel
theorem d_M_remove_68 : decode b_M_remove 68 = .ok (.ireturn, 1) := by decide +kernel
theorem d_M_logon_0 : decode b_M_logon 0 = .ok (.aload_n 0, 1) := by decide +kernel
theorem d_M_logon_1 : decode b_M_logon 1 = .ok (.iconst 0, 1) := by decide +kernel
theorem d_M_logon_2 : decode b_M_logon 2 = .ok (.putfield 54, 3) := by decide +kernel
theorem d_M_logon_5 : decode b_M_logon 5 = .ok (.aload_n 0, 1) := by decide +kernel
theorem d_M_logon_6 : decode b_M_logon 6 = .ok (.getfield 99, 3) := by decide +kernel
theorem d_M_logon_9 : decode b_M_logon 9 = .ok (.ifCond .ne 9, 3) := by decide +kernel
theorem d_M_logon_12 : decode b_M_logon 12 = .ok (.aload_n 0, 1) := by decide +kernel
theorem d_M_logon_13 : decode b_M_logon 13 = .ok (.iconst 1, 1) := by decide +kernel
theorem d_M_logon_14 : decode b_M_logon 14 = .ok (.invokevirtual 81, 3) := by decide +kernel
theorem d_M_logon_17 : decode b_M_logon 17 = .ok (.ireturn, 1) := by decide +kernel
theorem d_M_logon_18 : decode b_M_logon 18 = .ok (.iload_n 1, 1) := by decide +kernel
theorem d_M_logon_19 : decode b_M_logon 19 = .ok (.iconst 0, 1) := by decide +kernel
theorem d_M_logon_20 : decode b_M_logon 20 = .ok (.iconst 5, 1) := by decide +kernel
theorem d_M_logon_21 : decode b_M_logon 21 = .ok (.invokestatic 57, 3) := by decide +kernel
theorem d_M_logon_24 : decode b_M_logon 24 = .ok (.ifCond .ne 9, 3) := by decide +kernel
theorem d_M_logon_27 : decode b_M_logon 27 = .ok (.aload_n 0, 1) := by decide +kernel
theorem d_M_logon_28 : decode b_M_logon 28 = .ok (.iconst 2, 1) := by decide +kernel
theorem d_M_logon_29 : decode b_M_logon 29 = .ok (.invokevirtual 81, 3) := by decide +kernel
theorem d_M_logon_32 : decode b_M_logon 32 = .ok (.ireturn, 1) := by decide +kernel
theorem d_M_logon_33 : decode b_M_logon 33 = .ok (.aload_n 0, 1) := by decide +kernel
theorem d_M_logon_34 : decode b_M_logon 34 = .ok (.iload_n 1, 1) := by decide +kernel
theorem d_M_logon_35 : decode b_M_logon 35 = .ok (.invokevirtual 85, 3) := by decide +kernel
theorem d_M_logon_38 : decode b_M_logon 38 = .ok (.ifCond .ne 10, 3) := by decide +kernel
theorem d_M_logon_41 : decode b_M_logon 41 = .ok (.aload_n 0, 1) := by decide +kernel
theorem d_M_logon_42 : decode b_M_logon 42 = .ok (.getfield 42, 3) := by decide +kernel
theorem d_M_logon_45 : decode b_M_logon 45 = .ok (.ifCond .lt 9, 3) := by decide +kernel
theorem d_M_logon_48 : decode b_M_logon 48 = .ok (.aload_n 0, 1) := by decide +kernel
theorem d_M_logon_49 : decode b_M_logon 49 = .ok (.iconst 1, 1) := by decide +kernel
theorem d_M_logon_50 : decode b_M_logon 50 = .ok (.invokevirtual 81, 3) := by decide +kernel
theorem d_M_logon_53 : decode b_M_logon 53 = .ok (.ireturn, 1) := by decide +kernel
theorem d_M_logon_54 : decode b_M_logon 54 = .ok (.aload_n 0, 1) := by decide +kernel
theorem d_M_logon_55 : decode b_M_logon 55 = .ok (.iload_n 1, 1) := by decide +kernel
theorem d_M_logon_56 : decode b_M_logon 56 = .ok (.putfield 42, 3) := by decide +kernel
theorem d_M_logon_59 : decode b_M_logon 59 = .ok (.aload_n 0, 1) := by decide +kernel
theorem d_M_logon_60 : decode b_M_logon 60 = .ok (.aload_n 0, 1) := by decide +kernel
theorem d_M_logon_61 : decode b_M_logon 61 = .ok (.iload_n 1, 1) := by decide +kernel
theorem d_M_logon_62 : decode b_M_logon 62 = .ok (.invokevirtual 125, 3) := by decide +kernel
theorem d_M_logon_65 : decode b_M_logon 65 = .ok (.ifCond .eq 18, 3) := by decide +kernel
theorem d_M_logon_68 : decode b_M_logon 68 = .ok (.aload_n 0, 1) := by decide +kernel
theorem d_M_logon_69 : decode b_M_logon 69 = .ok (.getfield 26, 3) := by decide +kernel
theorem d_M_logon_72 : decode b_M_logon 72 = .ok (.iconst 4, 1) := by decide +kernel
theorem d_M_logon_73 : decode b_M_logon 73 = .ok (.iload_n 1, 1) := by decide +kernel
theorem d_M_logon_74 : decode b_M_logon 74 = .ok (.imul, 1) := by decide +kernel
theorem d_M_logon_75 : decode b_M_logon 75 = .ok (.iconst 3, 1) := by decide +kernel
theorem d_M_logon_76 : decode b_M_logon 76 = .ok (.iadd, 1) := by decide +kernel
theorem d_M_logon_77 : decode b_M_logon 77 = .ok (.iaload, 1) := by decide +kernel
theorem d_M_logon_78 : decode b_M_logon 78 = .ok (.iconst 4, 1) := by decide +kernel
theorem d_M_logon_79 : decode b_M_logon 79 = .ok (.irem, 1) := by decide +kernel
theorem d_M_logon_80 : decode b_M_logon 80 = .ok (.goto 4, 3) := by decide +kernel
theorem d_M_logon_83 : decode b_M_logon 83 = .ok (.iconst 0, 1) := by decide +kernel
theorem d_M_logon_84 : decode b_M_logon 84 = .ok (.putfield 116, 3) := by decide +kernel
theorem d_M_logon_87 : decode b_M_logon 87 = .ok (.aload_n 0, 1) := by decide +kernel
theorem d_M_logon_88 : decode b_M_logon 88 = .ok (.aload_n 0, 1) := by decide +kernel
theorem d_M_logon_89 : decode b_M_logon 89 = .ok (.getfield 116, 3) := by decide +kernel
theorem d_M_logon_92 : decode b_M_logon 92 = .ok (.ifCond .le 8, 3) := by decide +kernel
theorem d_M_logon_95 : decode b_M_logon 95 = .ok (.bipush 10, 2) := by decide +kernel
theorem d_M_logon_97 : decode b_M_logon 97 = .ok (.goto 5, 3) := by decide +kernel
theorem d_M_logon_100 : decode b_M_logon 100 = .ok (.bipush 16, 2) := by decide +kernel
theorem d_M_logon_102 : decode b_M_logon 102 = .ok (.iload_n 1, 1) := by decide +kernel
theorem d_M_logon_103 : decode b_M_logon 103 = .ok (.invokevirtual 122, 3) := by decide +kernel
theorem d_M_logon_106 : decode b_M_logon 106 = .ok (.aload_n 0, 1) := by decide +kernel
theorem d_M_logon_107 : decode b_M_logon 107 = .ok (.getfield 116, 3) := by decide +kernel
theorem d_M_logon_110 : decode b_M_logon 110 = .ok (.ireturn, 1) := by decide +kernel
theorem d_M_logoff_0 : decode b_M_logoff 0 = .ok (.aload_n 0, 1) := by decide +kernel
theorem d_M_logoff_1 : decode b_M_logoff 1 = .ok (.iconst 0, 1) := by decide +kernel
theorem d_M_logoff_2 : decode b_M_logoff 2 = .ok (.putfield 54, 3) := by decide +kernel
theorem d_M_logoff_5 : decode b_M_logoff 5 = .ok (.aload_n 0, 1) := by decide +kernel
theorem d_M_logoff_6 : decode b_M_logoff 6 = .ok (.getfield 99, 3) := by decide +kernel
theorem d_M_logoff_9 : decode b_M_logoff 9 = .ok (.ifCond .eq 10, 3) := by decide +kernel
theorem d_M_logoff_12 : decode b_M_logoff 12 = .ok (.aload_n 0, 1) := by decide +kernel
theorem d_M_logoff_13 : decode b_M_logoff 13 = .ok (.getfield 42, 3) := by decide +kernel
theorem d_M_logoff_16 : decode b_M_logoff 16 = .ok (.ifCond .ge 9, 3) := by decide +kernel
theorem d_M_logoff_19 : decode b_M_logoff 19 = .ok (.aload_n 0, 1) := by decide +kernel
theorem d_M_logoff_20 : decode b_M_logoff 20 = .ok (.iconst 1, 1) := by decide +kernel
theorem d_M_logoff_21 : decode b_M_logoff 21 = .ok (.invokevirtual 81, 3) := by decide +kernel
theorem d_M_logoff_24 : decode b_M_logoff 24 = .ok (.ireturn, 1) := by decide +kernel
theorem d_M_logoff_25 : decode b_M_logoff 25 = .ok (.aload_n 0, 1) := by decide +kernel
theorem d_M_logoff_26 : decode b_M_logoff 26 = .ok (.getfield 42, 3) := by decide +kernel
theorem d_M_logoff_29 : decode b_M_logoff 29 = .ok (.istore_n 1, 1) := by decide +kernel
theorem d_M_logoff_30 : decode b_M_logoff 30 = .ok (.aload_n 0, 1) := by decide +kernel
theorem d_M_logoff_31 : decode b_M_logoff 31 = .ok (.getfield 116, 3) := by decide +kernel
theorem d_M_logoff_34 : decode b_M_logoff 34 = .ok (.ifCond .le 10, 3) := by decide +kernel
theorem d_M_logoff_37 : decode b_M_logoff 37 = .ok (.aload_n 0, 1) := by decide +kernel
theorem d_M_logoff_38 : decode b_M_logoff 38 = .ok (.bipush 11, 2) := by decide +kernel
theorem d_M_logoff_40 : decode b_M_logoff 40 = .ok (.iload_n 1, 1) := by decide +kernel
theorem d_M_logoff_41 : decode b_M_logoff 41 = .ok (.invokevirtual 122, 3) := by decide +kernel
theorem d_M_logoff_44 : decode b_M_logoff 44 = .ok (.aload_n 0, 1) := by decide +kernel
theorem d_M_logoff_45 : decode b_M_logoff 45 = .ok (.iconst 0, 1) := by decide +kernel
theorem d_M_logoff_46 : decode b_M_logoff 46 = .ok (.putfield 116, 3) := by decide +kernel
theorem d_M_logoff_49 : decode b_M_logoff 49 = .ok (.aload_n 0, 1) := by decide +kernel
theorem d_M_logoff_50 : decode b_M_logoff 50 = .ok (.iconst (-1), 1) := by decide +kernel
theorem d_M_logoff_51 : decode b_M_logoff 51 = .ok (.putfield 42, 3) := by decide +kernel
theorem d_M_logoff_54 : decode b_M_logoff 54 = .ok (.iload_n 1, 1) := by decide +kernel
theorem d_M_logoff_55 : decode b_M_logoff 55 = .ok (.ireturn, 1) := by decide +kernel
theorem d_M_refusal_0 : decode b_M_refusal 0 = .ok (.aload_n 0, 1) := by decide +kernel
theorem d_M_refusal_1 : decode b_M_refusal 1 = .ok (.getfield 99, 3) := by decide +kernel
theorem d_M_refusal_4 : decode b_M_refusal 4 = .ok (.ifCond .eq 10, 3) := by decide +kernel
theorem d_M_refusal_7 : decode b_M_refusal 7 = .ok (.aload_n 0, 1) := by decide +kernel
theorem d_M_refusal_8 : decode b_M_refusal 8 = .ok (.getfield 116, 3) := by decide +kernel
theorem d_M_refusal_11 : decode b_M_refusal 11 = .ok (.ifCond .ne 7, 3) := by decide +kernel
theorem d_M_refusal_14 : decode b_M_refusal 14 = .ok (.iconst 1, 1) := by decide +kernel
theorem d_M_refusal_15 : decode b_M_refusal 15 = .ok (.goto 16, 3) := by decide +kernel
theorem d_M_refusal_18 : decode b_M_refusal 18 = .ok (.aload_n 0, 1) := by decide +kernel
theorem d_M_refusal_19 : decode b_M_refusal 19 = .ok (.getfield 116, 3) := by decide +kernel
theorem d_M_refusal_22 : decode b_M_refusal 22 = .ok (.iload_n 1, 1) := by decide +kernel
theorem d_M_refusal_23 : decode b_M_refusal 23 = .ok (.if_icmp .eq 7, 3) := by decide +kernel
theorem d_M_refusal_26 : decode b_M_refusal 26 = .ok (.iconst 2, 1) := by decide +kernel
theorem d_M_refusal_27 : decode b_M_refusal 27 = .ok (.goto 4, 3) := by decide +kernel
theorem d_M_refusal_30 : decode b_M_refusal 30 = .ok (.iconst 0, 1) := by decide +kernel
theorem d_M_refusal_31 : decode b_M_refusal 31 = .ok (.ireturn, 1) := by decide +kernel
theorem d_M_override_0 : decode b_M_override 0 = .ok (.aload_n 0, 1) := by decide +kernel
theorem d_M_override_1 : decode b_M_override 1 = .ok (.aload_n 0, 1) := by decide +kernel
theorem d_M_override_2 : decode b_M_override 2 = .ok (.iconst 1, 1) := by decide +kernel
theorem d_M_override_3 : decode b_M_override 3 = .ok (.invokevirtual 148, 3) := by decide +kernel
theorem d_M_override_6 : decode b_M_override 6 = .ok (.putfield 54, 3) := by decide +kernel
theorem d_M_override_9 : decode b_M_override 9 = .ok (.aload_n 0, 1) := by decide +kernel
theorem d_M_override_10 : decode b_M_override 10 = .ok (.getfield 54, 3) := by decide +kernel
theorem d_M_override_13 : decode b_M_override 13 = .ok (.ifCond .eq 5, 3) := by decide +kernel
theorem d_M_override_16 : decode b_M_override 16 = .ok (.iconst 0, 1) := by decide +kernel
theorem d_M_override_17 : decode b_M_override 17 = .ok (.ireturn, 1) := by decide +kernel
theorem d_M_override_18 : decode b_M_override 18 = .ok (.aload_n 0, 1) := by decide +kernel
theorem d_M_override_19 : decode b_M_override 19 = .ok (.invokevirtual 145, 3) := by decide +kernel
theorem d_M_override_22 : decode b_M_override 22 = .ok (.aload_n 0, 1) := by decide +kernel
theorem d_M_override_23 : decode b_M_override 23 = .ok (.bipush 12, 2) := by decide +kernel
theorem d_M_override_25 : decode b_M_override 25 = .ok (.aload_n 0, 1) := by decide +kernel
theorem d_M_override_26 : decode b_M_override 26 = .ok (.getfield 42, 3) := by decide +kernel
theorem d_M_override_29 : decode b_M_override 29 = .ok (.invokevirtual 122, 3) := by decide +kernel
theorem d_M_override_32 : decode b_M_override 32 = .ok (.aload_n 0, 1) := by decide +kernel
theorem d_M_override_33 : decode b_M_override 33 = .ok (.getfield 139, 3) := by decide +kernel
theorem d_M_override_36 : decode b_M_override 36 = .ok (.ireturn, 1) := by decide +kernel
theorem d_M_archive_0 : decode b_M_archive 0 = .ok (.aload_n 0, 1) := by decide +kernel
theorem d_M_archive_1 : decode b_M_archive 1 = .ok (.aload_n 0, 1) := by decide +kernel
theorem d_M_archive_2 : decode b_M_archive 2 = .ok (.iconst 2, 1) := by decide +kernel
theorem d_M_archive_3 : decode b_M_archive 3 = .ok (.invokevirtual 148, 3) := by decide +kernel
theorem d_M_archive_6 : decode b_M_archive 6 = .ok (.putfield 54, 3) := by decide +kernel
theorem d_M_archive_9 : decode b_M_archive 9 = .ok (.aload_n 0, 1) := by decide +kernel
theorem d_M_archive_10 : decode b_M_archive 10 = .ok (.getfield 54, 3) := by decide +kernel
theorem d_M_archive_13 : decode b_M_archive 13 = .ok (.ifCond .eq 5, 3) := by decide +kernel
theorem d_M_archive_16 : decode b_M_archive 16 = .ok (.iconst 0, 1) := by decide +kernel
theorem d_M_archive_17 : decode b_M_archive 17 = .ok (.ireturn, 1) := by decide +kernel
theorem d_M_archive_18 : decode b_M_archive 18 = .ok (.aload_n 0, 1) := by decide +kernel
theorem d_M_archive_19 : decode b_M_archive 19 = .ok (.getfield 103, 3) := by decide +kernel
theorem d_M_archive_22 : decode b_M_archive 22 = .ok (.istore_n 1, 1) := by decide +kernel
theorem d_M_archive_23 : decode b_M_archive 23 = .ok (.aload_n 0, 1) := by decide +kernel
theorem d_M_archive_24 : decode b_M_archive 24 = .ok (.iconst 0, 1) := by decide +kernel
theorem d_M_archive_25 : decode b_M_archive 25 = .ok (.putfield 103, 3) := by decide +kernel
theorem d_M_archive_28 : decode b_M_archive 28 = .ok (.aload_n 0, 1) := by decide +kernel
theorem d_M_archive_29 : decode b_M_archive 29 = .ok (.iconst 0, 1) := by decide +kernel
theorem d_M_archive_30 : decode b_M_archive 30 = .ok (.putfield 106, 3) := by decide +kernel
theorem d_M_archive_33 : decode b_M_archive 33 = .ok (.aload_n 0, 1) := by decide +kernel
theorem d_M_archive_34 : decode b_M_archive 34 = .ok (.bipush 13, 2) := by decide +kernel
theorem d_M_archive_36 : decode b_M_archive 36 = .ok (.aload_n 0, 1) := by decide +kernel
theorem d_M_archive_37 : decode b_M_archive 37 = .ok (.getfield 42, 3) := by decide +kernel
theorem d_M_archive_40 : decode b_M_archive 40 = .ok (.invokevirtual 122, 3) := by decide +kernel
theorem d_M_archive_43 : decode b_M_archive 43 = .ok (.iload_n 1, 1) := by decide +kernel
theorem d_M_archive_44 : decode b_M_archive 44 = .ok (.ireturn, 1) := by decide +kernel
theorem d_M_configure_0 : decode b_M_configure 0 = .ok (.aload_n 0, 1) := by decide +kernel
theorem d_M_configure_1 : decode b_M_configure 1 = .ok (.aload_n 0, 1) := by decide +kernel
theorem d_M_configure_2 : decode b_M_configure 2 = .ok (.iconst 3, 1) := by decide +kernel
theorem d_M_configure_3 : decode b_M_configure 3 = .ok (.invokevirtual 148, 3) := by decide +kernel
theorem d_M_configure_6 : decode b_M_configure 6 = .ok (.putfield 54, 3) := by decide +kernel
theorem d_M_configure_9 : decode b_M_configure 9 = .ok (.aload_n 0, 1) := by decide +kernel
theorem d_M_configure_10 : decode b_M_configure 10 = .ok (.getfield 54, 3) := by decide +kernel
theorem d_M_configure_13 : decode b_M_configure 13 = .ok (.ifCond .eq 5, 3) := by decide +kernel
theorem d_M_configure_16 : decode b_M_configure 16 = .ok (.iconst 0, 1) := by decide +kernel
theorem d_M_configure_17 : decode b_M_configure 17 = .ok (.ireturn, 1) := by decide +kernel
theorem d_M_configure_18 : decode b_M_configure 18 = .ok (.iload_n 1, 1) := by decide +kernel
theorem d_M_configure_19 : decode b_M_configure 19 = .ok (.iconst 0, 1) := by decide +kernel
theorem d_M_configure_20 : decode b_M_configure 20 = .ok (.iconst 5, 1) := by decide +kernel
theorem d_M_configure_21 : decode b_M_configure 21 = .ok (.invokestatic 57, 3) := by decide +kernel
theorem d_M_configure_24 : decode b_M_configure 24 = .ok (.ifCond .eq 33, 3) := by decide +kernel
theorem d_M_configure_27 : decode b_M_configure 27 = .ok (.iload_n 2, 1) := by decide +kernel
theorem d_M_configure_28 : decode b_M_configure 28 = .ok (.iconst 0, 1) := by decide +kernel
theorem d_M_configure_29 : decode b_M_configure 29 = .ok (.iload_n 1, 1) := by decide +kernel
theorem d_M_configure_30 : decode b_M_configure 30 = .ok (.iconst 4, 1) := by decide +kernel
theorem d_M_configure_31 : decode b_M_configure 31 = .ok (.if_icmp .ge 9, 3) := by decide +kernel
theorem d_M_configure_34 : decode b_M_configure 34 = .ok (.sipush 1000, 3) := by decide +kernel
theorem d_M_configure_37 : decode b_M_configure 37 = .ok (.goto 14, 3) := by decide +kernel
theorem d_M_configure_40 : decode b_M_configure 40 = .ok (.iload_n 1, 1) := by decide +kernel
theorem d_M_configure_41 : decode b_M_configure 41 = .ok (.iconst 4, 1) := by decide +kernel
theorem d_M_configure_42 : decode b_M_configure 42 = .ok (.if_icmp .ne 8, 3) := by decide +kernel
theorem d_M_configure_45 : decode b_M_configure 45 = .ok (.bipush 16, 2) := by decide +kernel
theorem d_M_configure_47 : decode b_M_configure 47 = .ok (.goto 4, 3) := by decide +kernel
theorem d_M_configure_50 : decode b_M_configure 50 = .ok (.iconst 3, 1) := by decide +kernel
theorem d_M_configure_51 : decode b_M_configure 51 = .ok (.invokestatic 57, 3) := by decide +kernel
theorem d_M_configure_54 : decode b_M_configure 54 = .ok (.ifCond .ne 9, 3) := by decide +kernel
theorem d_M_configure_57 : decode b_M_configure 57 = .ok (.aload_n 0, 1) := by decide +kernel
theorem d_M_configure_58 : decode b_M_configure 58 = .ok (.iconst 3, 1) := by decide +kernel
theorem d_M_configure_59 : decode b_M_configure 59 = .ok (.invokevirtual 81, 3) := by decide +kernel
theorem d_M_configure_62 : decode b_M_configure 62 = .ok (.ireturn, 1) := by decide +kernel
theorem d_M_configure_63 : decode b_M_configure 63 = .ok (.aload_n 0, 1) := by decide +kernel
theorem d_M_configure_64 : decode b_M_configure 64 = .ok (.getfield 7, 3) := by decide +kernel
theorem d_M_configure_67 : decode b_M_configure 67 = .ok (.iload_n 1, 1) := by decide +kernel
theorem d_M_configure_68 : decode b_M_configure 68 = .ok (.iaload, 1) := by decide +kernel
theorem d_M_configure_69 : decode b_M_configure 69 = .ok (.istore_n 3, 1) := by decide +kernel
theorem d_M_configure_70 : decode b_M_configure 70 = .ok (.aload_n 0, 1) := by decide +kernel
theorem d_M_configure_71 : decode b_M_configure 71 = .ok (.getfield 7, 3) := by decide +kernel
theorem d_M_configure_74 : decode b_M_configure 74 = .ok (.iload_n 1, 1) := by decide +kernel
theorem d_M_configure_75 : decode b_M_configure 75 = .ok (.iload_n 2, 1) := by decide +kernel
theorem d_M_configure_76 : decode b_M_configure 76 = .ok (.iastore, 1) := by decide +kernel
theorem d_M_configure_77 : decode b_M_configure 77 = .ok (.aload_n 0, 1) := by decide +kernel
theorem d_M_configure_78 : decode b_M_configure 78 = .ok (.bipush 14, 2) := by decide +kernel
theorem d_M_configure_80 : decode b_M_configure 80 = .ok (.aload_n 0, 1) := by decide +kernel
theorem d_M_configure_81 : decode b_M_configure 81 = .ok (.getfield 42, 3) := by decide +kernel
theorem d_M_configure_84 : decode b_M_configure 84 = .ok (.invokevirtual 122, 3) := by decide +kernel
theorem d_M_configure_87 : decode b_M_configure 87 = .ok (.iload_n 3, 1) := by decide +kernel
theorem d_M_configure_88 : decode b_M_configure 88 = .ok (.ireturn, 1) := by decide +kernel
theorem d_M_shutdown_0 : decode b_M_shutdown 0 = .ok (.aload_n 0, 1) := by decide +kernel
theorem d_M_shutdown_1 : decode b_M_shutdown 1 = .ok (.iconst 0, 1) := by decide +kernel
theorem d_M_shutdown_2 : decode b_M_shutdown 2 = .ok (.putfield 54, 3) := by decide +kernel
theorem d_M_shutdown_5 : decode b_M_shutdown 5 = .ok (.aload_n 0, 1) := by decide +kernel
theorem d_M_shutdown_6 : decode b_M_shutdown 6 = .ok (.getfield 99, 3) := by decide +kernel
theorem d_M_shutdown_9 : decode b_M_shutdown 9 = .ok (.ifCond .eq 17, 3) := by decide +kernel
theorem d_M_shutdown_12 : decode b_M_shutdown 12 = .ok (.aload_n 0, 1) := by decide +kernel
theorem d_M_shutdown_13 : decode b_M_shutdown 13 = .ok (.getfield 116, 3) := by decide +kernel
theorem d_M_shutdown_16 : decode b_M_shutdown 16 = .ok (.ifCond .eq 10, 3) := by decide +kernel
theorem d_M_shutdown_19 : decode b_M_shutdown 19 = .ok (.aload_n 0, 1) := by decide +kernel
theorem d_M_shutdown_20 : decode b_M_shutdown 20 = .ok (.getfield 151, 3) := by decide +kernel
theorem d_M_shutdown_23 : decode b_M_shutdown 23 = .ok (.ifCond .eq 9, 3) := by decide +kernel
theorem d_M_shutdown_26 : decode b_M_shutdown 26 = .ok (.aload_n 0, 1) := by decide +kernel
theorem d_M_shutdown_27 : decode b_M_shutdown 27 = .ok (.iconst 1, 1) := by decide +kernel
theorem d_M_shutdown_28 : decode b_M_shutdown 28 = .ok (.invokevirtual 81, 3) := by decide +kernel
theorem d_M_shutdown_31 : decode b_M_shutdown 31 = .ok (.ireturn, 1) := by decide +kernel
theorem d_M_shutdown_32 : decode b_M_shutdown 32 = .ok (.aload_n 0, 1) := by decide +kernel
theorem d_M_shutdown_33 : decode b_M_shutdown 33 = .ok (.getfield 116, 3) := by decide +kernel
theorem d_M_shutdown_36 : decode b_M_shutdown 36 = .ok (.iconst 3, 1) := by decide +kernel
theorem d_M_shutdown_37 : decode b_M_shutdown 37 = .ok (.if_icmp .eq 9, 3) := by decide +kernel
theorem d_M_shutdown_40 : decode b_M_shutdown 40 = .ok (.aload_n 0, 1) := by decide +kernel
theorem d_M_shutdown_41 : decode b_M_shutdown 41 = .ok (.iconst 2, 1) := by decide +kernel
theorem d_M_shutdown_42 : decode b_M_shutdown 42 = .ok (.invokevirtual 81, 3) := by decide +kernel
theorem d_M_shutdown_45 : decode b_M_shutdown 45 = .ok (.ireturn, 1) := by decide +kernel
theorem d_M_shutdown_46 : decode b_M_shutdown 46 = .ok (.aload_n 0, 1) := by decide +kernel
theorem d_M_shutdown_47 : decode b_M_shutdown 47 = .ok (.bipush 15, 2) := by decide +kernel
theorem d_M_shutdown_49 : decode b_M_shutdown 49 = .ok (.aload_n 0, 1) := by decide +kernel
theorem d_M_shutdown_50 : decode b_M_shutdown 50 = .ok (.getfield 42, 3) := by decide +kernel
theorem d_M_shutdown_53 : decode b_M_shutdown 53 = .ok (.invokevirtual 122, 3) := by decide +kernel
theorem d_M_shutdown_56 : decode b_M_shutdown 56 = .ok (.aload_n 0, 1) := by decide +kernel
theorem d_M_shutdown_57 : decode b_M_shutdown 57 = .ok (.iconst 0, 1) := by decide +kernel
theorem d_M_shutdown_58 : decode b_M_shutdown 58 = .ok (.putfield 99, 3) := by decide +kernel
theorem d_M_shutdown_61 : decode b_M_shutdown 61 = .ok (.aload_n 0, 1) := by decide +kernel
theorem d_M_shutdown_62 : decode b_M_shutdown 62 = .ok (.aload_n 0, 1) := by decide +kernel
theorem d_M_shutdown_63 : decode b_M_shutdown 63 = .ok (.getfield 93, 3) := by decide +kernel
theorem d_M_shutdown_66 : decode b_M_shutdown 66 = .ok (.putfield 139, 3) := by decide +kernel
theorem d_M_shutdown_69 : decode b_M_shutdown 69 = .ok (.aload_n 0, 1) := by decide +kernel
theorem d_M_shutdown_70 : decode b_M_shutdown 70 = .ok (.iconst (-1), 1) := by decide +kernel
theorem d_M_shutdown_71 : decode b_M_shutdown 71 = .ok (.putfield 38, 3) := by decide +kernel
theorem d_M_shutdown_74 : decode b_M_shutdown 74 = .ok (.aload_n 0, 1) := by decide +kernel
theorem d_M_shutdown_75 : decode b_M_shutdown 75 = .ok (.iconst (-1), 1) := by decide +kernel
theorem d_M_shutdown_76 : decode b_M_shutdown 76 = .ok (.putfield 42, 3) := by decide +kernel
theorem d_M_shutdown_79 : decode b_M_shutdown 79 = .ok (.aload_n 0, 1) := by decide +kernel
theorem d_M_shutdown_80 : decode b_M_shutdown 80 = .ok (.iconst 0, 1) := by decide +kernel
theorem d_M_shutdown_81 : decode b_M_shutdown 81 = .ok (.putfield 113, 3) := by decide +kernel
theorem d_M_shutdown_84 : decode b_M_shutdown 84 = .ok (.aload_n 0, 1) := by decide +kernel
theorem d_M_shutdown_85 : decode b_M_shutdown 85 = .ok (.iconst 0, 1) := by decide +kernel
theorem d_M_shutdown_86 : decode b_M_shutdown 86 = .ok (.putfield 116, 3) := by decide +kernel
theorem d_M_shutdown_89 : decode b_M_shutdown 89 = .ok (.iconst 1, 1) := by decide +kernel
theorem d_M_shutdown_90 : decode b_M_shutdown 90 = .ok (.ireturn, 1) := by decide +kernel
theorem d_M_door_0 : decode b_M_door 0 = .ok (.aload_n 0, 1) := by decide +kernel
theorem d_M_door_1 : decode b_M_door 1 = .ok (.iconst 0, 1) := by decide +kernel
theorem d_M_door_2 : decode b_M_door 2 = .ok (.putfield 54, 3) := by decide +kernel
theorem d_M_door_5 : decode b_M_door 5 = .ok (.aload_n 0, 1) := by decide +kernel
theorem d_M_door_6 : decode b_M_door 6 = .ok (.getfield 151, 3) := by decide +kernel
theorem d_M_door_9 : decode b_M_door 9 = .ok (.iload_n 1, 1) := by decide +kernel
theorem d_M_door_10 : decode b_M_door 10 = .ok (.if_icmp .ne 5, 3) := by decide +kernel
theorem d_M_door_13 : decode b_M_door 13 = .ok (.iconst 0, 1) := by decide +kernel
theorem d_M_door_14 : decode b_M_door 14 = .ok (.ireturn, 1) := by decide +kernel
theorem d_M_door_15 : decode b_M_door 15 = .ok (.aload_n 0, 1) := by decide +kernel
theorem d_M_door_16 : decode b_M_door 16 = .ok (.iload_n 1, 1) := by decide +kernel
theorem d_M_door_17 : decode b_M_door 17 = .ok (.putfield 151, 3) := by decide +kernel
theorem d_M_door_20 : decode b_M_door 20 = .ok (.iload_n 1, 1) := by decide +kernel
theorem d_M_door_21 : decode b_M_door 21 = .ok (.ifCond .eq 36, 3) := by decide +kernel
theorem d_M_door_24 : decode b_M_door 24 = .ok (.aload_n 0, 1) := by decide +kernel
theorem d_M_door_25 : decode b_M_door 25 = .ok (.getfield 93, 3) := by decide +kernel
theorem d_M_door_28 : decode b_M_door 28 = .ok (.aload_n 0, 1) := by decide +kernel
theorem d_M_door_29 : decode b_M_door 29 = .ok (.getfield 139, 3) := by decide +kernel
theorem d_M_door_32 : decode b_M_door 32 = .ok (.if_icmp .lt 25, 3) := by decide +kernel
theorem d_M_door_35 : decode b_M_door 35 = .ok (.aload_n 0, 1) := by decide +kernel
theorem d_M_door_36 : decode b_M_door 36 = .ok (.bipush 9, 2) := by decide +kernel
theorem d_M_door_38 : decode b_M_door 38 = .ok (.iconst (-1), 1) := by decide +kernel
theorem d_M_door_39 : decode b_M_door 39 = .ok (.invokevirtual 109, 3) := by decide +kernel
theorem d_M_door_42 : decode b_M_door 42 = .ok (.aload_n 0, 1) := by decide +kernel
theorem d_M_door_43 : decode b_M_door 43 = .ok (.aload_n 0, 1) := by decide +kernel
theorem d_M_door_44 : decode b_M_door 44 = .ok (.getfield 93, 3) := by decide +kernel
theorem d_M_door_47 : decode b_M_door 47 = .ok (.aload_n 0, 1) := by decide +kernel
theorem d_M_door_48 : decode b_M_door 48 = .ok (.getfield 7, 3) := by decide +kernel
theorem d_M_door_51 : decode b_M_door 51 = .ok (.iconst 1, 1) := by decide +kernel
theorem d_M_door_52 : decode b_M_door 52 = .ok (.iaload, 1) := by decide +kernel
theorem d_M_door_53 : decode b_M_door 53 = .ok (.iadd, 1) := by decide +kernel
theorem d_M_door_54 : decode b_M_door 54 = .ok (.putfield 142, 3) := by decide +kernel
theorem d_M_door_57 : decode b_M_door 57 = .ok (.iconst 1, 1) := by decide +kernel
theorem d_M_door_58 : decode b_M_door 58 = .ok (.ireturn, 1) := by decide +kernel
theorem d_M_second_0 : decode b_M_second 0 = .ok (.aload_n 0, 1) := by decide +kernel
theorem d_M_second_1 : decode b_M_second 1 = .ok (.dup, 1) := by decide +kernel
theorem d_M_second_2 : decode b_M_second 2 = .ok (.getfield 93, 3) := by decide +kernel
theorem d_M_second_5 : decode b_M_second 5 = .ok (.iconst 1, 1) := by decide +kernel
theorem d_M_second_6 : decode b_M_second 6 = .ok (.iadd, 1) := by decide +kernel
theorem d_M_second_7 : decode b_M_second 7 = .ok (.putfield 93, 3) := by decide +kernel
theorem d_M_second_10 : decode b_M_second 10 = .ok (.aload_n 0, 1) := by decide +kernel
theorem d_M_second_11 : decode b_M_second 11 = .ok (.getfield 113, 3) := by decide +kernel
theorem d_M_second_14 : decode b_M_second 14 = .ok (.iconst 1, 1) := by decide +kernel
theorem d_M_second_15 : decode b_M_second 15 = .ok (.if_icmp .eq 11, 3) := by decide +kernel
theorem d_M_second_18 : decode b_M_second 18 = .ok (.aload_n 0, 1) := by decide +kernel
theorem d_M_second_19 : decode b_M_second 19 = .ok (.getfield 113, 3) := by decide +kernel
theorem d_M_second_22 : decode b_M_second 22 = .ok (.iconst 2, 1) := by decide +kernel
theorem d_M_second_23 : decode b_M_second 23 = .ok (.if_icmp .ne 36, 3) := by decide +kernel
theorem d_M_second_26 : decode b_M_second 26 = .ok (.aload_n 0, 1) := by decide +kernel
theorem d_M_second_27 : decode b_M_second 27 = .ok (.getfield 93, 3) := by decide +kernel
theorem d_M_second_30 : decode b_M_second 30 = .ok (.aload_n 0, 1) := by decide +kernel
theorem d_M_second_31 : decode b_M_second 31 = .ok (.getfield 119, 3) := by decide +kernel
theorem d_M_second_34 : decode b_M_second 34 = .ok (.isub, 1) := by decide +kernel
theorem d_M_second_35 : decode b_M_second 35 = .ok (.aload_n 0, 1) := by decide +kernel
theorem d_M_second_36 : decode b_M_second 36 = .ok (.getfield 7, 3) := by decide +kernel
theorem d_M_second_39 : decode b_M_second 39 = .ok (.iconst 2, 1) := by decide +kernel
theorem d_M_second_40 : decode b_M_second 40 = .ok (.iaload, 1) := by decide +kernel
theorem d_M_second_41 : decode b_M_second 41 = .ok (.if_icmp .lt 18, 3) := by decide +kernel
theorem d_M_second_44 : decode b_M_second 44 = .ok (.aload_n 0, 1) := by decide +kernel
theorem d_M_second_45 : decode b_M_second 45 = .ok (.iconst 3, 1) := by decide +kernel
theorem d_M_second_46 : decode b_M_second 46 = .ok (.invokevirtual 128, 3) := by decide +kernel
theorem d_M_second_49 : decode b_M_second 49 = .ok (.aload_n 0, 1) := by decide +kernel
theorem d_M_second_50 : decode b_M_second 50 = .ok (.bipush 6, 2) := by decide +kernel
theorem d_M_second_52 : decode b_M_second 52 = .ok (.aload_n 0, 1) := by decide +kernel
theorem d_M_second_53 : decode b_M_second 53 = .ok (.getfield 38, 3) := by decide +kernel
theorem d_M_second_56 : decode b_M_second 56 = .ok (.invokevirtual 122, 3) := by decide +kernel
theorem d_M_second_59 : decode b_M_second 59 = .ok (.aload_n 0, 1) := by decide +kernel
theorem d_M_second_60 : decode b_M_second 60 = .ok (.getfield 116, 3) := by decide +kernel
theorem d_M_second_63 : decode b_M_second 63 = .ok (.ifCond .eq 18, 3) := by decide +kernel
theorem d_M_second_66 : decode b_M_second 66 = .ok (.aload_n 0, 1) := by decide +kernel
theorem d_M_second_67 : decode b_M_second 67 = .ok (.iconst 4, 1) := by decide +kernel
theorem d_M_second_68 : decode b_M_second 68 = .ok (.aload_n 0, 1) := by decide +kernel
theorem d_M_second_69 : decode b_M_second 69 = .ok (.getfield 42, 3) := by decide +kernel
theorem d_M_second_72 : decode b_M_second 72 = .ok (.imul, 1) := by decide +kernel
theorem d_M_second_73 : decode b_M_second 73 = .ok (.iconst 3, 1) := by decide +kernel
theorem d_M_second_74 : decode b_M_second 74 = .ok (.iadd, 1) := by decide +kernel
theorem d_M_second_75 : decode b_M_second 75 = .ok (.invokevirtual 96, 3) := by decide +kernel
theorem d_M_second_78 : decode b_M_second 78 = .ok (.ifCond .eq 4, 3) := by decide +kernel
theorem d_M_second_81 : decode b_M_second 81 = .ok (.return_, 1) := by decide +kernel
theorem d_M_second_82 : decode b_M_second 82 = .ok (.aload_n 0, 1) := by decide +kernel
theorem d_M_second_83 : decode b_M_second 83 = .ok (.bipush 11, 2) := by decide +kernel
theorem d_M_second_85 : decode b_M_second 85 = .ok (.aload_n 0, 1) := by decide +kernel
theorem d_M_second_86 : decode b_M_second 86 = .ok (.getfield 42, 3) := by decide +kernel
theorem d_M_second_89 : decode b_M_second 89 = .ok (.invokevirtual 122, 3) := by decide +kernel
theorem d_M_second_92 : decode b_M_second 92 = .ok (.aload_n 0, 1) := by decide +kernel
theorem d_M_second_93 : decode b_M_second 93 = .ok (.iconst 0, 1) := by decide +kernel
theorem d_M_second_94 : decode b_M_second 94 = .ok (.putfield 116, 3) := by decide +kernel
theorem d_M_second_97 : decode b_M_second 97 = .ok (.return_, 1) := by decide +kernel
theorem d_M_pass_0 : decode b_M_pass 0 = .ok (.aload_n 0, 1) := by decide +kernel
theorem d_M_pass_1 : decode b_M_pass 1 = .ok (.iconst 0, 1) := by decide +kernel
theorem d_M_pass_2 : decode b_M_pass 2 = .ok (.putfield 54, 3) := by decide +kernel
theorem d_M_pass_5 : decode b_M_pass 5 = .ok (.iload_n 1, 1) := by decide +kernel
theorem d_M_pass_6 : decode b_M_pass 6 = .ok (.iconst 1, 1) := by decide +kernel
theorem d_M_pass_7 : decode b_M_pass 7 = .ok (.sipush 1000, 3) := by decide +kernel
theorem d_M_pass_10 : decode b_M_pass 10 = .ok (.invokestatic 57, 3) := by decide +kernel
theorem d_M_pass_13 : decode b_M_pass 13 = .ok (.ifCond .eq 14, 3) := by decide +kernel
theorem d_M_pass_16 : decode b_M_pass 16 = .ok (.aload_n 0, 1) := by decide +kernel
theorem d_M_pass_17 : decode b_M_pass 17 = .ok (.getfield 93, 3) := by decide +kernel
theorem d_M_pass_20 : decode b_M_pass 20 = .ok (.iload_n 1, 1) := by decide +kernel
theorem d_M_pass_21 : decode b_M_pass 21 = .ok (.iadd, 1) := by decide +kernel
theorem d_M_pass_22 : decode b_M_pass 22 = .ok (.ldc 62, 2) := by decide +kernel
theorem d_M_pass_24 : decode b_M_pass 24 = .ok (.if_icmp .le 9, 3) := by decide +kernel
theorem d_M_pass_27 : decode b_M_pass 27 = .ok (.aload_n 0, 1) := by decide +kernel
theorem d_M_pass_28 : decode b_M_pass 28 = .ok (.iconst 1, 1) := by decide +kernel
theorem d_M_pass_29 : decode b_M_pass 29 = .ok (.invokevirtual 81, 3) := by decide +kernel
theorem d_M_pass_32 : decode b_M_pass 32 = .ok (.ireturn, 1) := by decide +kernel
theorem d_M_pass_33 : decode b_M_pass 33 = .ok (.iconst 0, 1) := by decide +kernel
theorem d_M_pass_34 : decode b_M_pass 34 = .ok (.istore_n 2, 1) := by decide +kernel
theorem d_M_pass_35 : decode b_M_pass 35 = .ok (.iload_n 2, 1) := by decide +kernel
theorem d_M_pass_36 : decode b_M_pass 36 = .ok (.iload_n 1, 1) := by decide +kernel
theorem d_M_pass_37 : decode b_M_pass 37 = .ok (.if_icmp .ge 13, 3) := by decide +kernel
theorem d_M_pass_40 : decode b_M_pass 40 = .ok (.aload_n 0, 1) := by decide +kernel
theorem d_M_pass_41 : decode b_M_pass 41 = .ok (.invokevirtual 154, 3) := by decide +kernel
theorem d_M_pass_44 : decode b_M_pass 44 = .ok (.iinc 2 1, 3) := by decide +kernel
theorem d_M_pass_47 : decode b_M_pass 47 = .ok (.goto (-12), 3) := by decide +kernel
theorem d_M_pass_50 : decode b_M_pass 50 = .ok (.aload_n 0, 1) := by decide +kernel
theorem d_M_pass_51 : decode b_M_pass 51 = .ok (.getfield 93, 3) := by decide +kernel
theorem d_M_pass_54 : decode b_M_pass 54 = .ok (.ireturn, 1) := by decide +kernel
theorem d_M_entry_0 : decode b_M_entry 0 = .ok (.aload_n 0, 1) := by decide +kernel
theorem d_M_entry_1 : decode b_M_entry 1 = .ok (.iconst 0, 1) := by decide +kernel
theorem d_M_entry_2 : decode b_M_entry 2 = .ok (.putfield 54, 3) := by decide +kernel
theorem d_M_entry_5 : decode b_M_entry 5 = .ok (.iload_n 1, 1) := by decide +kernel
theorem d_M_entry_6 : decode b_M_entry 6 = .ok (.ifCond .lt 11, 3) := by decide +kernel
theorem d_M_entry_9 : decode b_M_entry 9 = .ok (.iload_n 1, 1) := by decide +kernel
theorem d_M_entry_10 : decode b_M_entry 10 = .ok (.aload_n 0, 1) := by decide +kernel
theorem d_M_entry_11 : decode b_M_entry 11 = .ok (.getfield 103, 3) := by decide +kernel
theorem d_M_entry_14 : decode b_M_entry 14 = .ok (.if_icmp .lt 9, 3) := by decide +kernel
theorem d_M_entry_17 : decode b_M_entry 17 = .ok (.aload_n 0, 1) := by decide +kernel
theorem d_M_entry_18 : decode b_M_entry 18 = .ok (.iconst 1, 1) := by decide +kernel
theorem d_M_entry_19 : decode b_M_entry 19 = .ok (.invokevirtual 81, 3) := by decide +kernel
theorem d_M_entry_22 : decode b_M_entry 22 = .ok (.ireturn, 1) := by decide +kernel
theorem d_M_entry_23 : decode b_M_entry 23 = .ok (.iload_n 2, 1) := by decide +kernel
theorem d_M_entry_24 : decode b_M_entry 24 = .ok (.tableswitch 49 0 2 #[28, 35, 42], 28) := by decide +kernel
theorem d_M_entry_52 : decode b_M_entry 52 = .ok (.aload_n 0, 1) := by decide +kernel
theorem d_M_entry_53 : decode b_M_entry 53 = .ok (.getfield 45, 3) := by decide +kernel
theorem d_M_entry_56 : decode b_M_entry 56 = .ok (.iload_n 1, 1) := by decide +kernel
theorem d_M_entry_57 : decode b_M_entry 57 = .ok (.iaload, 1) := by decide +kernel
theorem d_M_entry_58 : decode b_M_entry 58 = .ok (.ireturn, 1) := by decide +kernel
theorem d_M_entry_59 : decode b_M_entry 59 = .ok (.aload_n 0, 1) := by decide +kernel
theorem d_M_entry_60 : decode b_M_entry 60 = .ok (.getfield 48, 3) := by decide +kernel
theorem d_M_entry_63 : decode b_M_entry 63 = .ok (.iload_n 1, 1) := by decide +kernel
theorem d_M_entry_64 : decode b_M_entry 64 = .ok (.iaload, 1) := by decide +kernel
theorem d_M_entry_65 : decode b_M_entry 65 = .ok (.ireturn, 1) := by decide +kernel
theorem d_M_entry_66 : decode b_M_entry 66 = .ok (.aload_n 0, 1) := by decide +kernel
theorem d_M_entry_67 : decode b_M_entry 67 = .ok (.getfield 51, 3) := by decide +kernel
theorem d_M_entry_70 : decode b_M_entry 70 = .ok (.iload_n 1, 1) := by decide +kernel
theorem d_M_entry_71 : decode b_M_entry 71 = .ok (.iaload, 1) := by decide +kernel
theorem d_M_entry_72 : decode b_M_entry 72 = .ok (.ireturn, 1) := by decide +kernel
theorem d_M_entry_73 : decode b_M_entry 73 = .ok (.aload_n 0, 1) := by decide +kernel
theorem d_M_entry_74 : decode b_M_entry 74 = .ok (.iconst 2, 1) := by decide +kernel
theorem d_M_entry_75 : decode b_M_entry 75 = .ok (.invokevirtual 81, 3) := by decide +kernel
theorem d_M_entry_78 : decode b_M_entry 78 = .ok (.ireturn, 1) := by decide +kernel
theorem d_M_certificate_0 : decode b_M_certificate 0 = .ok (.aload_n 0, 1) := by decide +kernel
theorem d_M_certificate_1 : decode b_M_certificate 1 = .ok (.iconst 0, 1) := by decide +kernel
theorem d_M_certificate_2 : decode b_M_certificate 2 = .ok (.putfield 54, 3) := by decide +kernel
theorem d_M_certificate_5 : decode b_M_certificate 5 = .ok (.iload_n 1, 1) := by decide +kernel
theorem d_M_certificate_6 : decode b_M_certificate 6 = .ok (.iconst 0, 1) := by decide +kernel
theorem d_M_certificate_7 : decode b_M_certificate 7 = .ok (.iconst 5, 1) := by decide +kernel
theorem d_M_certificate_8 : decode b_M_certificate 8 = .ok (.invokestatic 57, 3) := by decide +kernel
theorem d_M_certificate_11 : decode b_M_certificate 11 = .ok (.ifCond .ne 9, 3) := by decide +kernel
theorem d_M_certificate_14 : decode b_M_certificate 14 = .ok (.aload_n 0, 1) := by decide +kernel
theorem d_M_certificate_15 : decode b_M_certificate 15 = .ok (.iconst 1, 1) := by decide +kernel
theorem d_M_certificate_16 : decode b_M_certificate 16 = .ok (.invokevirtual 81, 3) := by decide +kernel
theorem d_M_certificate_19 : decode b_M_certificate 19 = .ok (.ireturn, 1) := by decide +kernel
theorem d_M_certificate_20 : decode b_M_certificate 20 = .ok (.iload_n 2, 1) := by decide +kernel
theorem d_M_certificate_21 : decode b_M_certificate 21 = .ok (.iconst 0, 1) := by decide +kernel
theorem d_M_certificate_22 : decode b_M_certificate 22 = .ok (.iconst 3, 1) := by decide +kernel
theorem d_M_certificate_23 : decode b_M_certificate 23 = .ok (.invokestatic 57, 3) := by decide +kernel
theorem d_M_certificate_26 : decode b_M_certificate 26 = .ok (.ifCond .eq 13, 3) := by decide +kernel
theorem d_M_certificate_29 : decode b_M_certificate 29 = .ok (.iload_n 3, 1) := by decide +kernel
theorem d_M_certificate_30 : decode b_M_certificate 30 = .ok (.iconst 0, 1) := by decide +kernel
theorem d_M_certificate_31 : decode b_M_certificate 31 = .ok (.bipush 6, 2) := by decide +kernel
theorem d_M_certificate_33 : decode b_M_certificate 33 = .ok (.invokestatic 57, 3) := by decide +kernel
theorem d_M_certificate_36 : decode b_M_certificate 36 = .ok (.ifCond .ne 9, 3) := by decide +kernel
theorem d_M_certificate_39 : decode b_M_certificate 39 = .ok (.aload_n 0, 1) := by decide +kernel
theorem d_M_certificate_40 : decode b_M_certificate 40 = .ok (.iconst 2, 1) := by decide +kernel
theorem d_M_certificate_41 : decode b_M_certificate 41 = .ok (.invokevirtual 81, 3) := by decide +kernel
theorem d_M_certificate_44 : decode b_M_certificate 44 = .ok (.ireturn, 1) := by decide +kernel
theorem d_M_certificate_45 : decode b_M_certificate 45 = .ok (.iconst 4, 1) := by decide +kernel
theorem d_M_certificate_46 : decode b_M_certificate 46 = .ok (.iload_n 1, 1) := by decide +kernel
theorem d_M_certificate_47 : decode b_M_certificate 47 = .ok (.imul, 1) := by decide +kernel
theorem d_M_certificate_48 : decode b_M_certificate 48 = .ok (.iload_n 2, 1) := by decide +kernel
theorem d_M_certificate_49 : decode b_M_certificate 49 = .ok (.iadd, 1) := by decide +kernel
theorem d_M_certificate_50 : decode b_M_certificate 50 = .ok (.istore 4, 2) := by decide +kernel
theorem d_M_certificate_52 : decode b_M_certificate 52 = .ok (.aload_n 0, 1) := by decide +kernel
theorem d_M_certificate_53 : decode b_M_certificate 53 = .ok (.getfield 16, 3) := by decide +kernel
theorem d_M_certificate_56 : decode b_M_certificate 56 = .ok (.iload 4, 2) := by decide +kernel
theorem d_M_certificate_58 : decode b_M_certificate 58 = .ok (.baload, 1) := by decide +kernel
theorem d_M_certificate_59 : decode b_M_certificate 59 = .ok (.ifCond .ne 9, 3) := by decide +kernel
theorem d_M_certificate_62 : decode b_M_certificate 62 = .ok (.aload_n 0, 1) := by decide +kernel
theorem d_M_certificate_63 : decode b_M_certificate 63 = .ok (.iconst 1, 1) := by decide +kernel
theorem d_M_certificate_64 : decode b_M_certificate 64 = .ok (.invokevirtual 81, 3) := by decide +kernel
theorem d_M_certificate_67 : decode b_M_certificate 67 = .ok (.ireturn, 1) := by decide +kernel
theorem d_M_certificate_68 : decode b_M_certificate 68 = .ok (.iload_n 3, 1) := by decide +kernel
theorem d_M_certificate_69 : decode b_M_certificate 69 = .ok (.tableswitch 106 0 6 #[43, 51, 59, 67, 75, 83, 91], 43) := by decide +kernel
theorem d_M_certificate_112 : decode b_M_certificate 112 = .ok (.aload_n 0, 1) := by decide +kernel
theorem d_M_certificate_113 : decode b_M_certificate 113 = .ok (.getfield 20, 3) := by decide +kernel
theorem d_M_certificate_116 : decode b_M_certificate 116 = .ok (.iload 4, 2) := by decide +kernel
theorem d_M_certificate_118 : decode b_M_certificate 118 = .ok (.iaload, 1) := by decide +kernel
theorem d_M_certificate_119 : decode b_M_certificate 119 = .ok (.ireturn, 1) := by decide +kernel
theorem d_M_certificate_120 : decode b_M_certificate 120 = .ok (.aload_n 0, 1) := by decide +kernel
theorem d_M_certificate_121 : decode b_M_certificate 121 = .ok (.getfield 23, 3) := by decide +kernel
theorem d_M_certificate_124 : decode b_M_certificate 124 = .ok (.iload 4, 2) := by decide +kernel
theorem d_M_certificate_126 : decode b_M_certificate 126 = .ok (.iaload, 1) := by decide +kernel
theorem d_M_certificate_127 : decode b_M_certificate 127 = .ok (.ireturn, 1) := by decide +kernel
theorem d_M_certificate_128 : decode b_M_certificate 128 = .ok (.aload_n 0, 1) := by decide +kernel
theorem d_M_certificate_129 : decode b_M_certificate 129 = .ok (.getfield 26, 3) := by decide +kernel
theorem d_M_certificate_132 : decode b_M_certificate 132 = .ok (.iload 4, 2) := by decide +kernel
theorem d_M_certificate_134 : decode b_M_certificate 134 = .ok (.iaload, 1) := by decide +kernel
theorem d_M_certificate_135 : decode b_M_certificate 135 = .ok (.ireturn, 1) := by decide +kernel
theorem d_M_certificate_136 : decode b_M_certificate 136 = .ok (.aload_n 0, 1) := by decide +kernel
theorem d_M_certificate_137 : decode b_M_certificate 137 = .ok (.getfield 29, 3) := by decide +kernel
theorem d_M_certificate_140 : decode b_M_certificate 140 = .ok (.iload 4, 2) := by decide +kernel
theorem d_M_certificate_142 : decode b_M_certificate 142 = .ok (.iaload, 1) := by decide +kernel
theorem d_M_certificate_143 : decode b_M_certificate 143 = .ok (.ireturn, 1) := by decide +kernel
theorem d_M_certificate_144 : decode b_M_certificate 144 = .ok (.aload_n 0, 1) := by decide +kernel
theorem d_M_certificate_145 : decode b_M_certificate 145 = .ok (.getfield 32, 3) := by decide +kernel
theorem d_M_certificate_148 : decode b_M_certificate 148 = .ok (.iload 4, 2) := by decide +kernel
theorem d_M_certificate_150 : decode b_M_certificate 150 = .ok (.iaload, 1) := by decide +kernel
theorem d_M_certificate_151 : decode b_M_certificate 151 = .ok (.ireturn, 1) := by decide +kernel
theorem d_M_certificate_152 : decode b_M_certificate 152 = .ok (.aload_n 0, 1) := by decide +kernel
theorem d_M_certificate_153 : decode b_M_certificate 153 = .ok (.getfield 35, 3) := by decide +kernel
theorem d_M_certificate_156 : decode b_M_certificate 156 = .ok (.iload 4, 2) := by decide +kernel
theorem d_M_certificate_158 : decode b_M_certificate 158 = .ok (.iaload, 1) := by decide +kernel
theorem d_M_certificate_159 : decode b_M_certificate 159 = .ok (.ireturn, 1) := by decide +kernel
theorem d_M_certificate_160 : decode b_M_certificate 160 = .ok (.aload_n 0, 1) := by decide +kernel
theorem d_M_certificate_161 : decode b_M_certificate 161 = .ok (.iload 4, 2) := by decide +kernel
theorem d_M_certificate_163 : decode b_M_certificate 163 = .ok (.invokevirtual 96, 3) := by decide +kernel
theorem d_M_certificate_166 : decode b_M_certificate 166 = .ok (.ifCond .eq 7, 3) := by decide +kernel
theorem d_M_certificate_169 : decode b_M_certificate 169 = .ok (.iconst 1, 1) := by decide +kernel
theorem d_M_certificate_170 : decode b_M_certificate 170 = .ok (.goto 4, 3) := by decide +kernel
theorem d_M_certificate_173 : decode b_M_certificate 173 = .ok (.iconst 0, 1) := by decide +kernel
theorem d_M_certificate_174 : decode b_M_certificate 174 = .ok (.ireturn, 1) := by decide +kernel
theorem d_M_certificate_175 : decode b_M_certificate 175 = .ok (.aload_n 0, 1) := by decide +kernel
theorem d_M_certificate_176 : decode b_M_certificate 176 = .ok (.iconst 2, 1) := by decide +kernel
theorem d_M_certificate_177 : decode b_M_certificate 177 = .ok (.invokevirtual 81, 3) := by decide +kernel
theorem d_M_certificate_180 : decode b_M_certificate 180 = .ok (.ireturn, 1) := by decide +kernel
theorem d_M_count_0 : decode b_M_count 0 = .ok (.aload_n 0, 1) := by decide +kernel
theorem d_M_count_1 : decode b_M_count 1 = .ok (.iconst 0, 1) := by decide +kernel
theorem d_M_count_2 : decode b_M_count 2 = .ok (.putfield 54, 3) := by decide +kernel
theorem d_M_count_5 : decode b_M_count 5 = .ok (.iload_n 1, 1) := by decide +kernel
theorem d_M_count_6 : decode b_M_count 6 = .ok (.tableswitch 179 0 10 #[58, 71, 76, 81, 98, 111, 146, 159, 164, 169, 174], 58) := by decide +kernel
theorem d_M_count_64 : decode b_M_count 64 = .ok (.aload_n 0, 1) := by decide +kernel
theorem d_M_count_65 : decode b_M_count 65 = .ok (.getfield 99, 3) := by decide +kernel
theorem d_M_count_68 : decode b_M_count 68 = .ok (.ifCond .eq 7, 3) := by decide +kernel
theorem d_M_count_71 : decode b_M_count 71 = .ok (.iconst 1, 1) := by decide +kernel
theorem d_M_count_72 : decode b_M_count 72 = .ok (.goto 4, 3) := by decide +kernel
theorem d_M_count_75 : decode b_M_count 75 = .ok (.iconst 0, 1) := by decide +kernel
theorem d_M_count_76 : decode b_M_count 76 = .ok (.ireturn, 1) := by decide +kernel
theorem d_M_count_77 : decode b_M_count 77 = .ok (.aload_n 0, 1) := by decide +kernel
theorem d_M_count_78 : decode b_M_count 78 = .ok (.getfield 113, 3) := by decide +kernel
theorem d_M_count_81 : decode b_M_count 81 = .ok (.ireturn, 1) := by decide +kernel
theorem d_M_count_82 : decode b_M_count 82 = .ok (.aload_n 0, 1) := by decide +kernel
theorem d_M_count_83 : decode b_M_count 83 = .ok (.getfield 116, 3) := by decide +kernel
theorem d_M_count_86 : decode b_M_count 86 = .ok (.ireturn, 1) := by decide +kernel
theorem d_M_count_87 : decode b_M_count 87 = .ok (.aload_n 0, 1) := by decide +kernel
theorem d_M_count_88 : decode b_M_count 88 = .ok (.getfield 93, 3) := by decide +kernel
theorem d_M_count_91 : decode b_M_count 91 = .ok (.aload_n 0, 1) := by decide +kernel
theorem d_M_count_92 : decode b_M_count 92 = .ok (.getfield 139, 3) := by decide +kernel
theorem d_M_count_95 : decode b_M_count 95 = .ok (.if_icmp .ge 7, 3) := by decide +kernel
theorem d_M_count_98 : decode b_M_count 98 = .ok (.iconst 1, 1) := by decide +kernel
theorem d_M_count_99 : decode b_M_count 99 = .ok (.goto 4, 3) := by decide +kernel
theorem d_M_count_102 : decode b_M_count 102 = .ok (.iconst 0, 1) := by decide +kernel
theorem d_M_count_103 : decode b_M_count 103 = .ok (.ireturn, 1) := by decide +kernel
theorem d_M_count_104 : decode b_M_count 104 = .ok (.aload_n 0, 1) := by decide +kernel
theorem d_M_count_105 : decode b_M_count 105 = .ok (.getfield 151, 3) := by decide +kernel
theorem d_M_count_108 : decode b_M_count 108 = .ok (.ifCond .eq 7, 3) := by decide +kernel
theorem d_M_count_111 : decode b_M_count 111 = .ok (.iconst 1, 1) := by decide +kernel
theorem d_M_count_112 : decode b_M_count 112 = .ok (.goto 4, 3) := by decide +kernel
theorem d_M_count_115 : decode b_M_count 115 = .ok (.iconst 0, 1) := by decide +kernel
theorem d_M_count_116 : decode b_M_count 116 = .ok (.ireturn, 1) := by decide +kernel
theorem d_M_count_117 : decode b_M_count 117 = .ok (.aload_n 0, 1) := by decide +kernel
theorem d_M_count_118 : decode b_M_count 118 = .ok (.getfield 151, 3) := by decide +kernel
theorem d_M_count_121 : decode b_M_count 121 = .ok (.ifCond .eq 29, 3) := by decide +kernel
theorem d_M_count_124 : decode b_M_count 124 = .ok (.aload_n 0, 1) := by decide +kernel
theorem d_M_count_125 : decode b_M_count 125 = .ok (.getfield 93, 3) := by decide +kernel
theorem d_M_count_128 : decode b_M_count 128 = .ok (.aload_n 0, 1) := by decide +kernel
theorem d_M_count_129 : decode b_M_count 129 = .ok (.getfield 139, 3) := by decide +kernel
theorem d_M_count_132 : decode b_M_count 132 = .ok (.if_icmp .lt 18, 3) := by decide +kernel
theorem d_M_count_135 : decode b_M_count 135 = .ok (.aload_n 0, 1) := by decide +kernel
theorem d_M_count_136 : decode b_M_count 136 = .ok (.getfield 93, 3) := by decide +kernel
theorem d_M_count_139 : decode b_M_count 139 = .ok (.aload_n 0, 1) := by decide +kernel
theorem d_M_count_140 : decode b_M_count 140 = .ok (.getfield 142, 3) := by decide +kernel
theorem d_M_count_143 : decode b_M_count 143 = .ok (.if_icmp .lt 7, 3) := by decide +kernel
theorem d_M_count_146 : decode b_M_count 146 = .ok (.iconst 1, 1) := by decide +kernel
theorem d_M_count_147 : decode b_M_count 147 = .ok (.goto 4, 3) := by decide +kernel
theorem d_M_count_150 : decode b_M_count 150 = .ok (.iconst 0, 1) := by decide +kernel
theorem d_M_count_151 : decode b_M_count 151 = .ok (.ireturn, 1) := by decide +kernel
theorem d_M_count_152 : decode b_M_count 152 = .ok (.aload_n 0, 1) := by decide +kernel
theorem d_M_count_153 : decode b_M_count 153 = .ok (.getfield 106, 3) := by decide +kernel
theorem d_M_count_156 : decode b_M_count 156 = .ok (.ifCond .eq 7, 3) := by decide +kernel
theorem d_M_count_159 : decode b_M_count 159 = .ok (.iconst 1, 1) := by decide +kernel
theorem d_M_count_160 : decode b_M_count 160 = .ok (.goto 4, 3) := by decide +kernel
theorem d_M_count_163 : decode b_M_count 163 = .ok (.iconst 0, 1) := by decide +kernel
theorem d_M_count_164 : decode b_M_count 164 = .ok (.ireturn, 1) := by decide +kernel
theorem d_M_count_165 : decode b_M_count 165 = .ok (.aload_n 0, 1) := by decide +kernel
theorem d_M_count_166 : decode b_M_count 166 = .ok (.getfield 103, 3) := by decide +kernel
theorem d_M_count_169 : decode b_M_count 169 = .ok (.ireturn, 1) := by decide +kernel
theorem d_M_count_170 : decode b_M_count 170 = .ok (.aload_n 0, 1) := by decide +kernel
theorem d_M_count_171 : decode b_M_count 171 = .ok (.getfield 93, 3) := by decide +kernel
theorem d_M_count_174 : decode b_M_count 174 = .ok (.ireturn, 1) := by decide +kernel
theorem d_M_count_175 : decode b_M_count 175 = .ok (.aload_n 0, 1) := by decide +kernel
theorem d_M_count_176 : decode b_M_count 176 = .ok (.getfield 38, 3) := by decide +kernel
theorem d_M_count_179 : decode b_M_count 179 = .ok (.ireturn, 1) := by decide +kernel
theorem d_M_count_180 : decode b_M_count 180 = .ok (.aload_n 0, 1) := by decide +kernel
theorem d_M_count_181 : decode b_M_count 181 = .ok (.getfield 42, 3) := by decide +kernel
theorem d_M_count_184 : decode b_M_count 184 = .ok (.ireturn, 1) := by decide +kernel
theorem d_M_count_185 : decode b_M_count 185 = .ok (.aload_n 0, 1) := by decide +kernel
theorem d_M_count_186 : decode b_M_count 186 = .ok (.iconst 1, 1) := by decide +kernel
theorem d_M_count_187 : decode b_M_count 187 = .ok (.invokevirtual 81, 3) := by decide +kernel
theorem d_M_count_190 : decode b_M_count 190 = .ok (.ireturn, 1) := by decide +kernel
end DEC
