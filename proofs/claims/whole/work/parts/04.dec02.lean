theorem dX9_addPerson_40 : decode cX9_addPerson 40 = .ok (.iconst 2, 1) := by decide +kernel
theorem dX9_addPerson_41 : decode cX9_addPerson 41 = .ok (.invokevirtual 113, 3) := by decide +kernel
theorem dX9_addPerson_44 : decode cX9_addPerson 44 = .ok (.ireturn, 1) := by decide +kernel
theorem dX9_addPerson_45 : decode cX9_addPerson 45 = .ok (.aload_n 0, 1) := by decide +kernel
theorem dX9_addPerson_46 : decode cX9_addPerson 46 = .ok (.getfield 23, 3) := by decide +kernel
theorem dX9_addPerson_49 : decode cX9_addPerson 49 = .ok (.aload_n 0, 1) := by decide +kernel
theorem dX9_addPerson_50 : decode cX9_addPerson 50 = .ok (.getfield 101, 3) := by decide +kernel
theorem dX9_addPerson_53 : decode cX9_addPerson 53 = .ok (.iload_n 1, 1) := by decide +kernel
theorem dX9_addPerson_54 : decode cX9_addPerson 54 = .ok (.iastore, 1) := by decide +kernel
theorem dX9_addPerson_55 : decode cX9_addPerson 55 = .ok (.aload_n 0, 1) := by decide +kernel
theorem dX9_addPerson_56 : decode cX9_addPerson 56 = .ok (.getfield 75, 3) := by decide +kernel
theorem dX9_addPerson_59 : decode cX9_addPerson 59 = .ok (.getfield 173, 3) := by decide +kernel
theorem dX9_addPerson_62 : decode cX9_addPerson 62 = .ok (.aload_n 0, 1) := by decide +kernel
theorem dX9_addPerson_63 : decode cX9_addPerson 63 = .ok (.getfield 101, 3) := by decide +kernel
theorem dX9_addPerson_66 : decode cX9_addPerson 66 = .ok (.iload_n 2, 1) := by decide +kernel
theorem dX9_addPerson_67 : decode cX9_addPerson 67 = .ok (.iastore, 1) := by decide +kernel
theorem dX9_addPerson_68 : decode cX9_addPerson 68 = .ok (.aload_n 0, 1) := by decide +kernel
theorem dX9_addPerson_69 : decode cX9_addPerson 69 = .ok (.dup, 1) := by decide +kernel
theorem dX9_addPerson_70 : decode cX9_addPerson 70 = .ok (.getfield 101, 3) := by decide +kernel
theorem dX9_addPerson_73 : decode cX9_addPerson 73 = .ok (.iconst 1, 1) := by decide +kernel
theorem dX9_addPerson_74 : decode cX9_addPerson 74 = .ok (.iadd, 1) := by decide +kernel
theorem dX9_addPerson_75 : decode cX9_addPerson 75 = .ok (.putfield 101, 3) := by decide +kernel
theorem dX9_addPerson_78 : decode cX9_addPerson 78 = .ok (.aload_n 0, 1) := by decide +kernel
theorem dX9_addPerson_79 : decode cX9_addPerson 79 = .ok (.getfield 101, 3) := by decide +kernel
theorem dX9_addPerson_82 : decode cX9_addPerson 82 = .ok (.iconst 1, 1) := by decide +kernel
theorem dX9_addPerson_83 : decode cX9_addPerson 83 = .ok (.isub, 1) := by decide +kernel
theorem dX9_addPerson_84 : decode cX9_addPerson 84 = .ok (.ireturn, 1) := by decide +kernel
theorem dX9_attach_0 : decode cX9_attach 0 = .ok (.aload_n 0, 1) := by decide +kernel
theorem dX9_attach_1 : decode cX9_attach 1 = .ok (.iconst 0, 1) := by decide +kernel
theorem dX9_attach_2 : decode cX9_attach 2 = .ok (.putfield 91, 3) := by decide +kernel
theorem dX9_attach_5 : decode cX9_attach 5 = .ok (.aload_n 0, 1) := by decide +kernel
theorem dX9_attach_6 : decode cX9_attach 6 = .ok (.iload_n 1, 1) := by decide +kernel
theorem dX9_attach_7 : decode cX9_attach 7 = .ok (.invokevirtual 176, 3) := by decide +kernel
theorem dX9_attach_10 : decode cX9_attach 10 = .ok (.ifCond .eq 11, 3) := by decide +kernel
theorem dX9_attach_13 : decode cX9_attach 13 = .ok (.aload_n 0, 1) := by decide +kernel
theorem dX9_attach_14 : decode cX9_attach 14 = .ok (.iload_n 2, 1) := by decide +kernel
theorem dX9_attach_15 : decode cX9_attach 15 = .ok (.invokevirtual 147, 3) := by decide +kernel
theorem dX9_attach_18 : decode cX9_attach 18 = .ok (.ifCond .ne 17, 3) := by decide +kernel
theorem dX9_attach_21 : decode cX9_attach 21 = .ok (.aload_n 0, 1) := by decide +kernel
theorem dX9_attach_22 : decode cX9_attach 22 = .ok (.iconst 1, 1) := by decide +kernel
theorem dX9_attach_23 : decode cX9_attach 23 = .ok (.invokevirtual 113, 3) := by decide +kernel
theorem dX9_attach_26 : decode cX9_attach 26 = .ok (.ifCond .le 7, 3) := by decide +kernel
theorem dX9_attach_29 : decode cX9_attach 29 = .ok (.iconst 1, 1) := by decide +kernel
theorem dX9_attach_30 : decode cX9_attach 30 = .ok (.goto 4, 3) := by decide +kernel
theorem dX9_attach_33 : decode cX9_attach 33 = .ok (.iconst 0, 1) := by decide +kernel
theorem dX9_attach_34 : decode cX9_attach 34 = .ok (.ireturn, 1) := by decide +kernel
theorem dX9_attach_35 : decode cX9_attach 35 = .ok (.aload_n 0, 1) := by decide +kernel
theorem dX9_attach_36 : decode cX9_attach 36 = .ok (.getfield 26, 3) := by decide +kernel
theorem dX9_attach_39 : decode cX9_attach 39 = .ok (.iload_n 1, 1) := by decide +kernel
theorem dX9_attach_40 : decode cX9_attach 40 = .ok (.dup2, 1) := by decide +kernel
theorem dX9_attach_41 : decode cX9_attach 41 = .ok (.iaload, 1) := by decide +kernel
theorem dX9_attach_42 : decode cX9_attach 42 = .ok (.iconst 1, 1) := by decide +kernel
theorem dX9_attach_43 : decode cX9_attach 43 = .ok (.iload_n 2, 1) := by decide +kernel
theorem dX9_attach_44 : decode cX9_attach 44 = .ok (.ishl, 1) := by decide +kernel
theorem dX9_attach_45 : decode cX9_attach 45 = .ok (.ixor, 1) := by decide +kernel
theorem dX9_attach_46 : decode cX9_attach 46 = .ok (.iastore, 1) := by decide +kernel
theorem dX9_attach_47 : decode cX9_attach 47 = .ok (.aload_n 0, 1) := by decide +kernel
theorem dX9_attach_48 : decode cX9_attach 48 = .ok (.getfield 26, 3) := by decide +kernel
theorem dX9_attach_51 : decode cX9_attach 51 = .ok (.iload_n 1, 1) := by decide +kernel
theorem dX9_attach_52 : decode cX9_attach 52 = .ok (.iaload, 1) := by decide +kernel
theorem dX9_attach_53 : decode cX9_attach 53 = .ok (.iload_n 2, 1) := by decide +kernel
theorem dX9_attach_54 : decode cX9_attach 54 = .ok (.ishr, 1) := by decide +kernel
theorem dX9_attach_55 : decode cX9_attach 55 = .ok (.iconst 1, 1) := by decide +kernel
theorem dX9_attach_56 : decode cX9_attach 56 = .ok (.iand, 1) := by decide +kernel
theorem dX9_attach_57 : decode cX9_attach 57 = .ok (.iconst 1, 1) := by decide +kernel
theorem dX9_attach_58 : decode cX9_attach 58 = .ok (.if_icmp .ne 7, 3) := by decide +kernel
theorem dX9_attach_61 : decode cX9_attach 61 = .ok (.iconst 1, 1) := by decide +kernel
theorem dX9_attach_62 : decode cX9_attach 62 = .ok (.goto 4, 3) := by decide +kernel
theorem dX9_attach_65 : decode cX9_attach 65 = .ok (.iconst 0, 1) := by decide +kernel
theorem dX9_attach_66 : decode cX9_attach 66 = .ok (.ireturn, 1) := by decide +kernel
theorem dX9_personTold_0 : decode cX9_personTold 0 = .ok (.iconst 0, 1) := by decide +kernel
theorem dX9_personTold_1 : decode cX9_personTold 1 = .ok (.istore_n 3, 1) := by decide +kernel
theorem dX9_personTold_2 : decode cX9_personTold 2 = .ok (.iconst 0, 1) := by decide +kernel
theorem dX9_personTold_3 : decode cX9_personTold 3 = .ok (.istore 4, 2) := by decide +kernel
theorem dX9_personTold_5 : decode cX9_personTold 5 = .ok (.iconst 0, 1) := by decide +kernel
theorem dX9_personTold_6 : decode cX9_personTold 6 = .ok (.istore 5, 2) := by decide +kernel
theorem dX9_personTold_8 : decode cX9_personTold 8 = .ok (.iconst 0, 1) := by decide +kernel
theorem dX9_personTold_9 : decode cX9_personTold 9 = .ok (.istore 6, 2) := by decide +kernel
theorem dX9_personTold_11 : decode cX9_personTold 11 = .ok (.iconst 0, 1) := by decide +kernel
theorem dX9_personTold_12 : decode cX9_personTold 12 = .ok (.istore 7, 2) := by decide +kernel
theorem dX9_personTold_14 : decode cX9_personTold 14 = .ok (.iload 7, 2) := by decide +kernel
theorem dX9_personTold_16 : decode cX9_personTold 16 = .ok (.aload_n 0, 1) := by decide +kernel
theorem dX9_personTold_17 : decode cX9_personTold 17 = .ok (.getfield 94, 3) := by decide +kernel
theorem dX9_personTold_20 : decode cX9_personTold 20 = .ok (.if_icmp .ge 33, 3) := by decide +kernel
theorem dX9_personTold_23 : decode cX9_personTold 23 = .ok (.iload_n 3, 1) := by decide +kernel
theorem dX9_personTold_24 : decode cX9_personTold 24 = .ok (.aload_n 0, 1) := by decide +kernel
theorem dX9_personTold_25 : decode cX9_personTold 25 = .ok (.getfield 75, 3) := by decide +kernel
theorem dX9_personTold_28 : decode cX9_personTold 28 = .ok (.iload_n 1, 1) := by decide +kernel
theorem dX9_personTold_29 : decode cX9_personTold 29 = .ok (.iload 7, 2) := by decide +kernel
theorem dX9_personTold_31 : decode cX9_personTold 31 = .ok (.invokevirtual 179, 3) := by decide +kernel
theorem dX9_personTold_34 : decode cX9_personTold 34 = .ok (.ifCond .eq 10, 3) := by decide +kernel
theorem dX9_personTold_37 : decode cX9_personTold 37 = .ok (.iconst 1, 1) := by decide +kernel
theorem dX9_personTold_38 : decode cX9_personTold 38 = .ok (.iload 7, 2) := by decide +kernel
theorem dX9_personTold_40 : decode cX9_personTold 40 = .ok (.ishl, 1) := by decide +kernel
theorem dX9_personTold_41 : decode cX9_personTold 41 = .ok (.goto 4, 3) := by decide +kernel
theorem dX9_personTold_44 : decode cX9_personTold 44 = .ok (.iconst 0, 1) := by decide +kernel
theorem dX9_personTold_45 : decode cX9_personTold 45 = .ok (.ior, 1) := by decide +kernel
theorem dX9_personTold_46 : decode cX9_personTold 46 = .ok (.istore_n 3, 1) := by decide +kernel
theorem dX9_personTold_47 : decode cX9_personTold 47 = .ok (.iinc 7 1, 3) := by decide +kernel
theorem dX9_personTold_50 : decode cX9_personTold 50 = .ok (.goto (-36), 3) := by decide +kernel
theorem dX9_personTold_53 : decode cX9_personTold 53 = .ok (.iconst 0, 1) := by decide +kernel
theorem dX9_personTold_54 : decode cX9_personTold 54 = .ok (.istore 7, 2) := by decide +kernel
theorem dX9_personTold_56 : decode cX9_personTold 56 = .ok (.iload 7, 2) := by decide +kernel
theorem dX9_personTold_58 : decode cX9_personTold 58 = .ok (.aload_n 0, 1) := by decide +kernel
theorem dX9_personTold_59 : decode cX9_personTold 59 = .ok (.getfield 104, 3) := by decide +kernel
theorem dX9_personTold_62 : decode cX9_personTold 62 = .ok (.if_icmp .ge 33, 3) := by decide +kernel
theorem dX9_personTold_65 : decode cX9_personTold 65 = .ok (.iload 4, 2) := by decide +kernel
theorem dX9_personTold_67 : decode cX9_personTold 67 = .ok (.aload_n 0, 1) := by decide +kernel
theorem dX9_personTold_68 : decode cX9_personTold 68 = .ok (.getfield 75, 3) := by decide +kernel
theorem dX9_personTold_71 : decode cX9_personTold 71 = .ok (.getfield 158, 3) := by decide +kernel
theorem dX9_personTold_74 : decode cX9_personTold 74 = .ok (.iload 7, 2) := by decide +kernel
theorem dX9_personTold_76 : decode cX9_personTold 76 = .ok (.iaload, 1) := by decide +kernel
theorem dX9_personTold_77 : decode cX9_personTold 77 = .ok (.iload_n 1, 1) := by decide +kernel
theorem dX9_personTold_78 : decode cX9_personTold 78 = .ok (.if_icmp .ne 7, 3) := by decide +kernel
theorem dX9_personTold_81 : decode cX9_personTold 81 = .ok (.iconst 1, 1) := by decide +kernel
theorem dX9_personTold_82 : decode cX9_personTold 82 = .ok (.goto 4, 3) := by decide +kernel
theorem dX9_personTold_85 : decode cX9_personTold 85 = .ok (.iconst 0, 1) := by decide +kernel
theorem dX9_personTold_86 : decode cX9_personTold 86 = .ok (.iadd, 1) := by decide +kernel
theorem dX9_personTold_87 : decode cX9_personTold 87 = .ok (.istore 4, 2) := by decide +kernel
theorem dX9_personTold_89 : decode cX9_personTold 89 = .ok (.iinc 7 1, 3) := by decide +kernel
theorem dX9_personTold_92 : decode cX9_personTold 92 = .ok (.goto (-36), 3) := by decide +kernel
theorem dX9_personTold_95 : decode cX9_personTold 95 = .ok (.iconst 0, 1) := by decide +kernel
theorem dX9_personTold_96 : decode cX9_personTold 96 = .ok (.istore 7, 2) := by decide +kernel
theorem dX9_personTold_98 : decode cX9_personTold 98 = .ok (.iload 7, 2) := by decide +kernel
theorem dX9_personTold_100 : decode cX9_personTold 100 = .ok (.aload_n 0, 1) := by decide +kernel
theorem dX9_personTold_101 : decode cX9_personTold 101 = .ok (.getfield 107, 3) := by decide +kernel
theorem dX9_personTold_104 : decode cX9_personTold 104 = .ok (.if_icmp .ge 30, 3) := by decide +kernel
theorem dX9_personTold_107 : decode cX9_personTold 107 = .ok (.iload 5, 2) := by decide +kernel
theorem dX9_personTold_109 : decode cX9_personTold 109 = .ok (.aload_n 0, 1) := by decide +kernel
theorem dX9_personTold_110 : decode cX9_personTold 110 = .ok (.getfield 49, 3) := by decide +kernel
theorem dX9_personTold_113 : decode cX9_personTold 113 = .ok (.iload 7, 2) := by decide +kernel
theorem dX9_personTold_115 : decode cX9_personTold 115 = .ok (.iaload, 1) := by decide +kernel
theorem dX9_personTold_116 : decode cX9_personTold 116 = .ok (.iload_n 1, 1) := by decide +kernel
theorem dX9_personTold_117 : decode cX9_personTold 117 = .ok (.if_icmp .ne 7, 3) := by decide +kernel
theorem dX9_personTold_120 : decode cX9_personTold 120 = .ok (.iconst 1, 1) := by decide +kernel
theorem dX9_personTold_121 : decode cX9_personTold 121 = .ok (.goto 4, 3) := by decide +kernel
theorem dX9_personTold_124 : decode cX9_personTold 124 = .ok (.iconst 0, 1) := by decide +kernel
theorem dX9_personTold_125 : decode cX9_personTold 125 = .ok (.iadd, 1) := by decide +kernel
theorem dX9_personTold_126 : decode cX9_personTold 126 = .ok (.istore 5, 2) := by decide +kernel
theorem dX9_personTold_128 : decode cX9_personTold 128 = .ok (.iinc 7 1, 3) := by decide +kernel
theorem dX9_personTold_131 : decode cX9_personTold 131 = .ok (.goto (-33), 3) := by decide +kernel
theorem dX9_personTold_134 : decode cX9_personTold 134 = .ok (.iconst 0, 1) := by decide +kernel
theorem dX9_personTold_135 : decode cX9_personTold 135 = .ok (.istore 7, 2) := by decide +kernel
theorem dX9_personTold_137 : decode cX9_personTold 137 = .ok (.iload 7, 2) := by decide +kernel
theorem dX9_personTold_139 : decode cX9_personTold 139 = .ok (.aload_n 0, 1) := by decide +kernel
theorem dX9_personTold_140 : decode cX9_personTold 140 = .ok (.getfield 182, 3) := by decide +kernel
theorem dX9_personTold_143 : decode cX9_personTold 143 = .ok (.if_icmp .ge 44, 3) := by decide +kernel
theorem dX9_personTold_146 : decode cX9_personTold 146 = .ok (.iload 6, 2) := by decide +kernel
theorem dX9_personTold_148 : decode cX9_personTold 148 = .ok (.aload_n 0, 1) := by decide +kernel
theorem dX9_personTold_149 : decode cX9_personTold 149 = .ok (.getfield 64, 3) := by decide +kernel
theorem dX9_personTold_152 : decode cX9_personTold 152 = .ok (.iload 7, 2) := by decide +kernel
theorem dX9_personTold_154 : decode cX9_personTold 154 = .ok (.iaload, 1) := by decide +kernel
theorem dX9_personTold_155 : decode cX9_personTold 155 = .ok (.iload_n 1, 1) := by decide +kernel
theorem dX9_personTold_156 : decode cX9_personTold 156 = .ok (.if_icmp .ne 21, 3) := by decide +kernel
theorem dX9_personTold_159 : decode cX9_personTold 159 = .ok (.aload_n 0, 1) := by decide +kernel
theorem dX9_personTold_160 : decode cX9_personTold 160 = .ok (.getfield 75, 3) := by decide +kernel
theorem dX9_personTold_163 : decode cX9_personTold 163 = .ok (.getfield 185, 3) := by decide +kernel
theorem dX9_personTold_166 : decode cX9_personTold 166 = .ok (.iload 7, 2) := by decide +kernel
theorem dX9_personTold_168 : decode cX9_personTold 168 = .ok (.iaload, 1) := by decide +kernel
theorem dX9_personTold_169 : decode cX9_personTold 169 = .ok (.iconst 1, 1) := by decide +kernel
theorem dX9_personTold_170 : decode cX9_personTold 170 = .ok (.if_icmp .ne 7, 3) := by decide +kernel
theorem dX9_personTold_173 : decode cX9_personTold 173 = .ok (.iconst 1, 1) := by decide +kernel
theorem dX9_personTold_174 : decode cX9_personTold 174 = .ok (.goto 4, 3) := by decide +kernel
theorem dX9_personTold_177 : decode cX9_personTold 177 = .ok (.iconst 0, 1) := by decide +kernel
theorem dX9_personTold_178 : decode cX9_personTold 178 = .ok (.iadd, 1) := by decide +kernel
theorem dX9_personTold_179 : decode cX9_personTold 179 = .ok (.istore 6, 2) := by decide +kernel
theorem dX9_personTold_181 : decode cX9_personTold 181 = .ok (.iinc 7 1, 3) := by decide +kernel
theorem dX9_personTold_184 : decode cX9_personTold 184 = .ok (.goto (-47), 3) := by decide +kernel
theorem dX9_personTold_187 : decode cX9_personTold 187 = .ok (.bipush 8, 2) := by decide +kernel
theorem dX9_personTold_189 : decode cX9_personTold 189 = .ok (.newarray .int, 2) := by decide +kernel
theorem dX9_personTold_191 : decode cX9_personTold 191 = .ok (.dup, 1) := by decide +kernel
theorem dX9_personTold_192 : decode cX9_personTold 192 = .ok (.iconst 0, 1) := by decide +kernel
theorem dX9_personTold_193 : decode cX9_personTold 193 = .ok (.aload_n 0, 1) := by decide +kernel
theorem dX9_personTold_194 : decode cX9_personTold 194 = .ok (.getfield 23, 3) := by decide +kernel
theorem dX9_personTold_197 : decode cX9_personTold 197 = .ok (.iload_n 1, 1) := by decide +kernel
theorem dX9_personTold_198 : decode cX9_personTold 198 = .ok (.iaload, 1) := by decide +kernel
theorem dX9_personTold_199 : decode cX9_personTold 199 = .ok (.iastore, 1) := by decide +kernel
theorem dX9_personTold_200 : decode cX9_personTold 200 = .ok (.dup, 1) := by decide +kernel
theorem dX9_personTold_201 : decode cX9_personTold 201 = .ok (.iconst 1, 1) := by decide +kernel
theorem dX9_personTold_202 : decode cX9_personTold 202 = .ok (.aload_n 0, 1) := by decide +kernel
theorem dX9_personTold_203 : decode cX9_personTold 203 = .ok (.getfield 75, 3) := by decide +kernel
theorem dX9_personTold_206 : decode cX9_personTold 206 = .ok (.getfield 173, 3) := by decide +kernel
theorem dX9_personTold_209 : decode cX9_personTold 209 = .ok (.iload_n 1, 1) := by decide +kernel
theorem dX9_personTold_210 : decode cX9_personTold 210 = .ok (.iaload, 1) := by decide +kernel
theorem dX9_personTold_211 : decode cX9_personTold 211 = .ok (.iastore, 1) := by decide +kernel
theorem dX9_personTold_212 : decode cX9_personTold 212 = .ok (.dup, 1) := by decide +kernel
theorem dX9_personTold_213 : decode cX9_personTold 213 = .ok (.iconst 2, 1) := by decide +kernel
theorem dX9_personTold_214 : decode cX9_personTold 214 = .ok (.aload_n 0, 1) := by decide +kernel
theorem dX9_personTold_215 : decode cX9_personTold 215 = .ok (.getfield 26, 3) := by decide +kernel
theorem dX9_personTold_218 : decode cX9_personTold 218 = .ok (.iload_n 1, 1) := by decide +kernel
theorem dX9_personTold_219 : decode cX9_personTold 219 = .ok (.iaload, 1) := by decide +kernel
theorem dX9_personTold_220 : decode cX9_personTold 220 = .ok (.iastore, 1) := by decide +kernel
theorem dX9_personTold_221 : decode cX9_personTold 221 = .ok (.dup, 1) := by decide +kernel
theorem dX9_personTold_222 : decode cX9_personTold 222 = .ok (.iconst 3, 1) := by decide +kernel
theorem dX9_personTold_223 : decode cX9_personTold 223 = .ok (.iload_n 3, 1) := by decide +kernel
theorem dX9_personTold_224 : decode cX9_personTold 224 = .ok (.iastore, 1) := by decide +kernel
theorem dX9_personTold_225 : decode cX9_personTold 225 = .ok (.dup, 1) := by decide +kernel
theorem dX9_personTold_226 : decode cX9_personTold 226 = .ok (.iconst 4, 1) := by decide +kernel
theorem dX9_personTold_227 : decode cX9_personTold 227 = .ok (.aload_n 0, 1) := by decide +kernel
theorem dX9_personTold_228 : decode cX9_personTold 228 = .ok (.getfield 75, 3) := by decide +kernel
theorem dX9_personTold_231 : decode cX9_personTold 231 = .ok (.getfield 188, 3) := by decide +kernel
theorem dX9_personTold_234 : decode cX9_personTold 234 = .ok (.iload_n 1, 1) := by decide +kernel
theorem dX9_personTold_235 : decode cX9_personTold 235 = .ok (.iaload, 1) := by decide +kernel
theorem dX9_personTold_236 : decode cX9_personTold 236 = .ok (.iastore, 1) := by decide +kernel
theorem dX9_personTold_237 : decode cX9_personTold 237 = .ok (.dup, 1) := by decide +kernel
theorem dX9_personTold_238 : decode cX9_personTold 238 = .ok (.iconst 5, 1) := by decide +kernel
theorem dX9_personTold_239 : decode cX9_personTold 239 = .ok (.iload 4, 2) := by decide +kernel
theorem dX9_personTold_241 : decode cX9_personTold 241 = .ok (.iastore, 1) := by decide +kernel
theorem dX9_personTold_242 : decode cX9_personTold 242 = .ok (.dup, 1) := by decide +kernel
theorem dX9_personTold_243 : decode cX9_personTold 243 = .ok (.bipush 6, 2) := by decide +kernel
theorem dX9_personTold_245 : decode cX9_personTold 245 = .ok (.iload 5, 2) := by decide +kernel
theorem dX9_personTold_247 : decode cX9_personTold 247 = .ok (.iastore, 1) := by decide +kernel
theorem dX9_personTold_248 : decode cX9_personTold 248 = .ok (.dup, 1) := by decide +kernel
theorem dX9_personTold_249 : decode cX9_personTold 249 = .ok (.bipush 7, 2) := by decide +kernel
theorem dX9_personTold_251 : decode cX9_personTold 251 = .ok (.iload 6, 2) := by decide +kernel
theorem dX9_personTold_253 : decode cX9_personTold 253 = .ok (.iastore, 1) := by decide +kernel
theorem dX9_personTold_254 : decode cX9_personTold 254 = .ok (.astore 7, 2) := by decide +kernel
theorem dX9_personTold_256 : decode cX9_personTold 256 = .ok (.aload 7, 2) := by decide +kernel
theorem dX9_personTold_258 : decode cX9_personTold 258 = .ok (.iload_n 2, 1) := by decide +kernel
theorem dX9_personTold_259 : decode cX9_personTold 259 = .ok (.iaload, 1) := by decide +kernel
theorem dX9_personTold_260 : decode cX9_personTold 260 = .ok (.ireturn, 1) := by decide +kernel
theorem dX9_person_0 : decode cX9_person 0 = .ok (.aload_n 0, 1) := by decide +kernel
theorem dX9_person_1 : decode cX9_person 1 = .ok (.iconst 0, 1) := by decide +kernel
theorem dX9_person_2 : decode cX9_person 2 = .ok (.putfield 91, 3) := by decide +kernel
theorem dX9_person_5 : decode cX9_person 5 = .ok (.aload_n 0, 1) := by decide +kernel
theorem dX9_person_6 : decode cX9_person 6 = .ok (.iload_n 1, 1) := by decide +kernel
theorem dX9_person_7 : decode cX9_person 7 = .ok (.invokevirtual 176, 3) := by decide +kernel
theorem dX9_person_10 : decode cX9_person 10 = .ok (.ifCond .eq 22, 3) := by decide +kernel
theorem dX9_person_13 : decode cX9_person 13 = .ok (.iload_n 2, 1) := by decide +kernel
theorem dX9_person_14 : decode cX9_person 14 = .ok (.iconst 0, 1) := by decide +kernel
theorem dX9_person_15 : decode cX9_person 15 = .ok (.bipush 7, 2) := by decide +kernel
theorem dX9_person_17 : decode cX9_person 17 = .ok (.invokestatic 97, 3) := by decide +kernel
theorem dX9_person_20 : decode cX9_person 20 = .ok (.ifCond .eq 12, 3) := by decide +kernel
theorem dX9_person_23 : decode cX9_person 23 = .ok (.aload_n 0, 1) := by decide +kernel
theorem dX9_person_24 : decode cX9_person 24 = .ok (.iload_n 1, 1) := by decide +kernel
theorem dX9_person_25 : decode cX9_person 25 = .ok (.iload_n 2, 1) := by decide +kernel
theorem dX9_person_26 : decode cX9_person 26 = .ok (.invokevirtual 191, 3) := by decide +kernel
theorem dX9_person_29 : decode cX9_person 29 = .ok (.goto 8, 3) := by decide +kernel
theorem dX9_person_32 : decode cX9_person 32 = .ok (.aload_n 0, 1) := by decide +kernel
theorem dX9_person_33 : decode cX9_person 33 = .ok (.iconst 1, 1) := by decide +kernel
theorem dX9_person_34 : decode cX9_person 34 = .ok (.invokevirtual 113, 3) := by decide +kernel
theorem dX9_person_37 : decode cX9_person 37 = .ok (.ireturn, 1) := by decide +kernel
theorem dX9_caseTold_0 : decode cX9_caseTold 0 = .ok (.iconst 0, 1) := by decide +kernel
theorem dX9_caseTold_1 : decode cX9_caseTold 1 = .ok (.istore_n 3, 1) := by decide +kernel
theorem dX9_caseTold_2 : decode cX9_caseTold 2 = .ok (.iconst 0, 1) := by decide +kernel
theorem dX9_caseTold_3 : decode cX9_caseTold 3 = .ok (.istore 4, 2) := by decide +kernel
theorem dX9_caseTold_5 : decode cX9_caseTold 5 = .ok (.iconst 0, 1) := by decide +kernel
theorem dX9_caseTold_6 : decode cX9_caseTold 6 = .ok (.istore 5, 2) := by decide +kernel
theorem dX9_caseTold_8 : decode cX9_caseTold 8 = .ok (.iconst 0, 1) := by decide +kernel
theorem dX9_caseTold_9 : decode cX9_caseTold 9 = .ok (.istore 6, 2) := by decide +kernel
theorem dX9_caseTold_11 : decode cX9_caseTold 11 = .ok (.iconst 0, 1) := by decide +kernel
theorem dX9_caseTold_12 : decode cX9_caseTold 12 = .ok (.istore 7, 2) := by decide +kernel
theorem dX9_caseTold_14 : decode cX9_caseTold 14 = .ok (.iload 7, 2) := by decide +kernel
theorem dX9_caseTold_16 : decode cX9_caseTold 16 = .ok (.aload_n 0, 1) := by decide +kernel
theorem dX9_caseTold_17 : decode cX9_caseTold 17 = .ok (.getfield 104, 3) := by decide +kernel
theorem dX9_caseTold_20 : decode cX9_caseTold 20 = .ok (.if_icmp .ge 28, 3) := by decide +kernel
theorem dX9_caseTold_23 : decode cX9_caseTold 23 = .ok (.iload_n 3, 1) := by decide +kernel
theorem dX9_caseTold_24 : decode cX9_caseTold 24 = .ok (.aload_n 0, 1) := by decide +kernel
theorem dX9_caseTold_25 : decode cX9_caseTold 25 = .ok (.getfield 29, 3) := by decide +kernel
theorem dX9_caseTold_28 : decode cX9_caseTold 28 = .ok (.iload 7, 2) := by decide +kernel
theorem dX9_caseTold_30 : decode cX9_caseTold 30 = .ok (.iaload, 1) := by decide +kernel
theorem dX9_caseTold_31 : decode cX9_caseTold 31 = .ok (.iload_n 1, 1) := by decide +kernel
theorem dX9_caseTold_32 : decode cX9_caseTold 32 = .ok (.if_icmp .ne 7, 3) := by decide +kernel
theorem dX9_caseTold_35 : decode cX9_caseTold 35 = .ok (.iconst 1, 1) := by decide +kernel
theorem dX9_caseTold_36 : decode cX9_caseTold 36 = .ok (.goto 4, 3) := by decide +kernel
theorem dX9_caseTold_39 : decode cX9_caseTold 39 = .ok (.iconst 0, 1) := by decide +kernel
theorem dX9_caseTold_40 : decode cX9_caseTold 40 = .ok (.iadd, 1) := by decide +kernel
theorem dX9_caseTold_41 : decode cX9_caseTold 41 = .ok (.istore_n 3, 1) := by decide +kernel
theorem dX9_caseTold_42 : decode cX9_caseTold 42 = .ok (.iinc 7 1, 3) := by decide +kernel
theorem dX9_caseTold_45 : decode cX9_caseTold 45 = .ok (.goto (-31), 3) := by decide +kernel
theorem dX9_caseTold_48 : decode cX9_caseTold 48 = .ok (.iconst 0, 1) := by decide +kernel
theorem dX9_caseTold_49 : decode cX9_caseTold 49 = .ok (.istore 7, 2) := by decide +kernel
theorem dX9_caseTold_51 : decode cX9_caseTold 51 = .ok (.iload 7, 2) := by decide +kernel
theorem dX9_caseTold_53 : decode cX9_caseTold 53 = .ok (.aload_n 0, 1) := by decide +kernel
theorem dX9_caseTold_54 : decode cX9_caseTold 54 = .ok (.getfield 107, 3) := by decide +kernel
theorem dX9_caseTold_57 : decode cX9_caseTold 57 = .ok (.if_icmp .ge 60, 3) := by decide +kernel
theorem dX9_caseTold_60 : decode cX9_caseTold 60 = .ok (.iload 4, 2) := by decide +kernel
theorem dX9_caseTold_62 : decode cX9_caseTold 62 = .ok (.aload_n 0, 1) := by decide +kernel
theorem dX9_caseTold_63 : decode cX9_caseTold 63 = .ok (.getfield 46, 3) := by decide +kernel
theorem dX9_caseTold_66 : decode cX9_caseTold 66 = .ok (.iload 7, 2) := by decide +kernel
theorem dX9_caseTold_68 : decode cX9_caseTold 68 = .ok (.iaload, 1) := by decide +kernel
theorem dX9_caseTold_69 : decode cX9_caseTold 69 = .ok (.iload_n 1, 1) := by decide +kernel
theorem dX9_caseTold_70 : decode cX9_caseTold 70 = .ok (.if_icmp .ne 7, 3) := by decide +kernel
theorem dX9_caseTold_73 : decode cX9_caseTold 73 = .ok (.iconst 1, 1) := by decide +kernel
theorem dX9_caseTold_74 : decode cX9_caseTold 74 = .ok (.goto 4, 3) := by decide +kernel
theorem dX9_caseTold_77 : decode cX9_caseTold 77 = .ok (.iconst 0, 1) := by decide +kernel
theorem dX9_caseTold_78 : decode cX9_caseTold 78 = .ok (.iadd, 1) := by decide +kernel
theorem dX9_caseTold_79 : decode cX9_caseTold 79 = .ok (.istore 4, 2) := by decide +kernel
theorem dX9_caseTold_81 : decode cX9_caseTold 81 = .ok (.iload 5, 2) := by decide +kernel
theorem dX9_caseTold_83 : decode cX9_caseTold 83 = .ok (.aload_n 0, 1) := by decide +kernel
theorem dX9_caseTold_84 : decode cX9_caseTold 84 = .ok (.getfield 46, 3) := by decide +kernel
theorem dX9_caseTold_87 : decode cX9_caseTold 87 = .ok (.iload 7, 2) := by decide +kernel
theorem dX9_caseTold_89 : decode cX9_caseTold 89 = .ok (.iaload, 1) := by decide +kernel
theorem dX9_caseTold_90 : decode cX9_caseTold 90 = .ok (.iload_n 1, 1) := by decide +kernel
theorem dX9_caseTold_91 : decode cX9_caseTold 91 = .ok (.if_icmp .ne 16, 3) := by decide +kernel
theorem dX9_caseTold_94 : decode cX9_caseTold 94 = .ok (.aload_n 0, 1) := by decide +kernel
theorem dX9_caseTold_95 : decode cX9_caseTold 95 = .ok (.iload 7, 2) := by decide +kernel
theorem dX9_caseTold_97 : decode cX9_caseTold 97 = .ok (.invokevirtual 194, 3) := by decide +kernel
theorem dX9_caseTold_100 : decode cX9_caseTold 100 = .ok (.ifCond .eq 7, 3) := by decide +kernel
theorem dX9_caseTold_103 : decode cX9_caseTold 103 = .ok (.iconst 1, 1) := by decide +kernel
theorem dX9_caseTold_104 : decode cX9_caseTold 104 = .ok (.goto 4, 3) := by decide +kernel
theorem dX9_caseTold_107 : decode cX9_caseTold 107 = .ok (.iconst 0, 1) := by decide +kernel
theorem dX9_caseTold_108 : decode cX9_caseTold 108 = .ok (.iadd, 1) := by decide +kernel
theorem dX9_caseTold_109 : decode cX9_caseTold 109 = .ok (.istore 5, 2) := by decide +kernel
theorem dX9_caseTold_111 : decode cX9_caseTold 111 = .ok (.iinc 7 1, 3) := by decide +kernel
theorem dX9_caseTold_114 : decode cX9_caseTold 114 = .ok (.goto (-63), 3) := by decide +kernel
theorem dX9_caseTold_117 : decode cX9_caseTold 117 = .ok (.iconst 0, 1) := by decide +kernel
theorem dX9_caseTold_118 : decode cX9_caseTold 118 = .ok (.istore 7, 2) := by decide +kernel
theorem dX9_caseTold_120 : decode cX9_caseTold 120 = .ok (.iload 7, 2) := by decide +kernel
theorem dX9_caseTold_122 : decode cX9_caseTold 122 = .ok (.aload_n 0, 1) := by decide +kernel
theorem dX9_caseTold_123 : decode cX9_caseTold 123 = .ok (.getfield 101, 3) := by decide +kernel
theorem dX9_caseTold_126 : decode cX9_caseTold 126 = .ok (.if_icmp .ge 32, 3) := by decide +kernel
theorem dX9_caseTold_129 : decode cX9_caseTold 129 = .ok (.iload 6, 2) := by decide +kernel
theorem dX9_caseTold_131 : decode cX9_caseTold 131 = .ok (.aload_n 0, 1) := by decide +kernel
theorem dX9_caseTold_132 : decode cX9_caseTold 132 = .ok (.getfield 75, 3) := by decide +kernel
theorem dX9_caseTold_135 : decode cX9_caseTold 135 = .ok (.iload 7, 2) := by decide +kernel
theorem dX9_caseTold_137 : decode cX9_caseTold 137 = .ok (.iload_n 1, 1) := by decide +kernel
theorem dX9_caseTold_138 : decode cX9_caseTold 138 = .ok (.invokevirtual 179, 3) := by decide +kernel
theorem dX9_caseTold_141 : decode cX9_caseTold 141 = .ok (.ifCond .eq 7, 3) := by decide +kernel
theorem dX9_caseTold_144 : decode cX9_caseTold 144 = .ok (.iconst 1, 1) := by decide +kernel
theorem dX9_caseTold_145 : decode cX9_caseTold 145 = .ok (.goto 4, 3) := by decide +kernel
theorem dX9_caseTold_148 : decode cX9_caseTold 148 = .ok (.iconst 0, 1) := by decide +kernel
theorem dX9_caseTold_149 : decode cX9_caseTold 149 = .ok (.iadd, 1) := by decide +kernel
theorem dX9_caseTold_150 : decode cX9_caseTold 150 = .ok (.istore 6, 2) := by decide +kernel
theorem dX9_caseTold_152 : decode cX9_caseTold 152 = .ok (.iinc 7 1, 3) := by decide +kernel
theorem dX9_caseTold_155 : decode cX9_caseTold 155 = .ok (.goto (-35), 3) := by decide +kernel
theorem dX9_caseTold_158 : decode cX9_caseTold 158 = .ok (.iconst 5, 1) := by decide +kernel
theorem dX9_caseTold_159 : decode cX9_caseTold 159 = .ok (.newarray .int, 2) := by decide +kernel
theorem dX9_caseTold_161 : decode cX9_caseTold 161 = .ok (.dup, 1) := by decide +kernel
theorem dX9_caseTold_162 : decode cX9_caseTold 162 = .ok (.iconst 0, 1) := by decide +kernel
theorem dX9_caseTold_163 : decode cX9_caseTold 163 = .ok (.aload_n 0, 1) := by decide +kernel
theorem dX9_caseTold_164 : decode cX9_caseTold 164 = .ok (.getfield 20, 3) := by decide +kernel
theorem dX9_caseTold_167 : decode cX9_caseTold 167 = .ok (.iload_n 1, 1) := by decide +kernel
theorem dX9_caseTold_168 : decode cX9_caseTold 168 = .ok (.iaload, 1) := by decide +kernel
theorem dX9_caseTold_169 : decode cX9_caseTold 169 = .ok (.iastore, 1) := by decide +kernel
theorem dX9_caseTold_170 : decode cX9_caseTold 170 = .ok (.dup, 1) := by decide +kernel
theorem dX9_caseTold_171 : decode cX9_caseTold 171 = .ok (.iconst 1, 1) := by decide +kernel
theorem dX9_caseTold_172 : decode cX9_caseTold 172 = .ok (.iload_n 3, 1) := by decide +kernel
theorem dX9_caseTold_173 : decode cX9_caseTold 173 = .ok (.iastore, 1) := by decide +kernel
theorem dX9_caseTold_174 : decode cX9_caseTold 174 = .ok (.dup, 1) := by decide +kernel
theorem dX9_caseTold_175 : decode cX9_caseTold 175 = .ok (.iconst 2, 1) := by decide +kernel
theorem dX9_caseTold_176 : decode cX9_caseTold 176 = .ok (.iload 4, 2) := by decide +kernel
theorem dX9_caseTold_178 : decode cX9_caseTold 178 = .ok (.iastore, 1) := by decide +kernel
theorem dX9_caseTold_179 : decode cX9_caseTold 179 = .ok (.dup, 1) := by decide +kernel
theorem dX9_caseTold_180 : decode cX9_caseTold 180 = .ok (.iconst 3, 1) := by decide +kernel
theorem dX9_caseTold_181 : decode cX9_caseTold 181 = .ok (.iload 5, 2) := by decide +kernel
theorem dX9_caseTold_183 : decode cX9_caseTold 183 = .ok (.iastore, 1) := by decide +kernel
theorem dX9_caseTold_184 : decode cX9_caseTold 184 = .ok (.dup, 1) := by decide +kernel
theorem dX9_caseTold_185 : decode cX9_caseTold 185 = .ok (.iconst 4, 1) := by decide +kernel
theorem dX9_caseTold_186 : decode cX9_caseTold 186 = .ok (.iload 6, 2) := by decide +kernel
theorem dX9_caseTold_188 : decode cX9_caseTold 188 = .ok (.iastore, 1) := by decide +kernel
theorem dX9_caseTold_189 : decode cX9_caseTold 189 = .ok (.astore 7, 2) := by decide +kernel
theorem dX9_caseTold_191 : decode cX9_caseTold 191 = .ok (.aload 7, 2) := by decide +kernel
theorem dX9_caseTold_193 : decode cX9_caseTold 193 = .ok (.iload_n 2, 1) := by decide +kernel
theorem dX9_caseTold_194 : decode cX9_caseTold 194 = .ok (.iaload, 1) := by decide +kernel
theorem dX9_caseTold_195 : decode cX9_caseTold 195 = .ok (.ireturn, 1) := by decide +kernel
theorem dX9_caseOf_0 : decode cX9_caseOf 0 = .ok (.aload_n 0, 1) := by decide +kernel
theorem dX9_caseOf_1 : decode cX9_caseOf 1 = .ok (.iconst 0, 1) := by decide +kernel
theorem dX9_caseOf_2 : decode cX9_caseOf 2 = .ok (.putfield 91, 3) := by decide +kernel
theorem dX9_caseOf_5 : decode cX9_caseOf 5 = .ok (.aload_n 0, 1) := by decide +kernel
theorem dX9_caseOf_6 : decode cX9_caseOf 6 = .ok (.iload_n 1, 1) := by decide +kernel
theorem dX9_caseOf_7 : decode cX9_caseOf 7 = .ok (.invokevirtual 147, 3) := by decide +kernel
theorem dX9_caseOf_10 : decode cX9_caseOf 10 = .ok (.ifCond .eq 21, 3) := by decide +kernel
theorem dX9_caseOf_13 : decode cX9_caseOf 13 = .ok (.iload_n 2, 1) := by decide +kernel
theorem dX9_caseOf_14 : decode cX9_caseOf 14 = .ok (.iconst 0, 1) := by decide +kernel
theorem dX9_caseOf_15 : decode cX9_caseOf 15 = .ok (.iconst 4, 1) := by decide +kernel
theorem dX9_caseOf_16 : decode cX9_caseOf 16 = .ok (.invokestatic 97, 3) := by decide +kernel
theorem dX9_caseOf_19 : decode cX9_caseOf 19 = .ok (.ifCond .eq 12, 3) := by decide +kernel
theorem dX9_caseOf_22 : decode cX9_caseOf 22 = .ok (.aload_n 0, 1) := by decide +kernel
theorem dX9_caseOf_23 : decode cX9_caseOf 23 = .ok (.iload_n 1, 1) := by decide +kernel
theorem dX9_caseOf_24 : decode cX9_caseOf 24 = .ok (.iload_n 2, 1) := by decide +kernel
theorem dX9_caseOf_25 : decode cX9_caseOf 25 = .ok (.invokevirtual 197, 3) := by decide +kernel
theorem dX9_caseOf_28 : decode cX9_caseOf 28 = .ok (.goto 8, 3) := by decide +kernel
theorem dX9_caseOf_31 : decode cX9_caseOf 31 = .ok (.aload_n 0, 1) := by decide +kernel
theorem dX9_caseOf_32 : decode cX9_caseOf 32 = .ok (.iconst 1, 1) := by decide +kernel
theorem dX9_caseOf_33 : decode cX9_caseOf 33 = .ok (.invokevirtual 113, 3) := by decide +kernel
theorem dX9_caseOf_36 : decode cX9_caseOf 36 = .ok (.ireturn, 1) := by decide +kernel
theorem dX9_seen_0 : decode cX9_seen 0 = .ok (.aload_n 0, 1) := by decide +kernel
theorem dX9_seen_1 : decode cX9_seen 1 = .ok (.getfield 33, 3) := by decide +kernel
theorem dX9_seen_4 : decode cX9_seen 4 = .ok (.iload_n 1, 1) := by decide +kernel
theorem dX9_seen_5 : decode cX9_seen 5 = .ok (.aaload, 1) := by decide +kernel
theorem dX9_seen_6 : decode cX9_seen 6 = .ok (.iload_n 2, 1) := by decide +kernel
theorem dX9_seen_7 : decode cX9_seen 7 = .ok (.iaload, 1) := by decide +kernel
theorem dX9_seen_8 : decode cX9_seen 8 = .ok (.istore 4, 2) := by decide +kernel
theorem dX9_seen_10 : decode cX9_seen 10 = .ok (.iload 4, 2) := by decide +kernel
theorem dX9_seen_12 : decode cX9_seen 12 = .ok (.bipush 10, 2) := by decide +kernel
theorem dX9_seen_14 : decode cX9_seen 14 = .ok (.if_icmp .ne 6, 3) := by decide +kernel
theorem dX9_seen_17 : decode cX9_seen 17 = .ok (.iload 4, 2) := by decide +kernel
theorem dX9_seen_19 : decode cX9_seen 19 = .ok (.ireturn, 1) := by decide +kernel
theorem dX9_seen_20 : decode cX9_seen 20 = .ok (.aload_n 0, 1) := by decide +kernel
theorem dX9_seen_21 : decode cX9_seen 21 = .ok (.getfield 37, 3) := by decide +kernel
theorem dX9_seen_24 : decode cX9_seen 24 = .ok (.iload_n 1, 1) := by decide +kernel
theorem dX9_seen_25 : decode cX9_seen 25 = .ok (.aaload, 1) := by decide +kernel
theorem dX9_seen_26 : decode cX9_seen 26 = .ok (.iload_n 2, 1) := by decide +kernel
theorem dX9_seen_27 : decode cX9_seen 27 = .ok (.iaload, 1) := by decide +kernel
theorem dX9_seen_28 : decode cX9_seen 28 = .ok (.iload_n 3, 1) := by decide +kernel
theorem dX9_seen_29 : decode cX9_seen 29 = .ok (.if_icmp .le 6, 3) := by decide +kernel
theorem dX9_seen_32 : decode cX9_seen 32 = .ok (.bipush 35, 2) := by decide +kernel
theorem dX9_seen_34 : decode cX9_seen 34 = .ok (.ireturn, 1) := by decide +kernel
theorem dX9_seen_35 : decode cX9_seen 35 = .ok (.aload_n 0, 1) := by decide +kernel
theorem dX9_seen_36 : decode cX9_seen 36 = .ok (.getfield 40, 3) := by decide +kernel
theorem dX9_seen_39 : decode cX9_seen 39 = .ok (.iload_n 1, 1) := by decide +kernel
theorem dX9_seen_40 : decode cX9_seen 40 = .ok (.aaload, 1) := by decide +kernel
theorem dX9_seen_41 : decode cX9_seen 41 = .ok (.iload_n 2, 1) := by decide +kernel
theorem dX9_seen_42 : decode cX9_seen 42 = .ok (.iaload, 1) := by decide +kernel
theorem dX9_seen_43 : decode cX9_seen 43 = .ok (.iconst 1, 1) := by decide +kernel
theorem dX9_seen_44 : decode cX9_seen 44 = .ok (.if_icmp .ne 12, 3) := by decide +kernel
theorem dX9_seen_47 : decode cX9_seen 47 = .ok (.iload_n 3, 1) := by decide +kernel
theorem dX9_seen_48 : decode cX9_seen 48 = .ok (.ifCond .ne 8, 3) := by decide +kernel
theorem dX9_seen_51 : decode cX9_seen 51 = .ok (.bipush 42, 2) := by decide +kernel
theorem dX9_seen_53 : decode cX9_seen 53 = .ok (.goto 5, 3) := by decide +kernel
theorem dX9_seen_56 : decode cX9_seen 56 = .ok (.iload 4, 2) := by decide +kernel
theorem dX9_seen_58 : decode cX9_seen 58 = .ok (.ireturn, 1) := by decide +kernel
theorem dX9_seenBy_0 : decode cX9_seenBy 0 = .ok (.aload_n 0, 1) := by decide +kernel
theorem dX9_seenBy_1 : decode cX9_seenBy 1 = .ok (.getfield 75, 3) := by decide +kernel
theorem dX9_seenBy_4 : decode cX9_seenBy 4 = .ok (.iload_n 1, 1) := by decide +kernel
theorem dX9_seenBy_5 : decode cX9_seenBy 5 = .ok (.aload_n 0, 1) := by decide +kernel
theorem dX9_seenBy_6 : decode cX9_seenBy 6 = .ok (.getfield 29, 3) := by decide +kernel
theorem dX9_seenBy_9 : decode cX9_seenBy 9 = .ok (.iload_n 2, 1) := by decide +kernel
theorem dX9_seenBy_10 : decode cX9_seenBy 10 = .ok (.iaload, 1) := by decide +kernel
theorem dX9_seenBy_11 : decode cX9_seenBy 11 = .ok (.invokevirtual 179, 3) := by decide +kernel
theorem dX9_seenBy_14 : decode cX9_seenBy 14 = .ok (.ifCond .eq 26, 3) := by decide +kernel
theorem dX9_seenBy_17 : decode cX9_seenBy 17 = .ok (.aload_n 0, 1) := by decide +kernel
theorem dX9_seenBy_18 : decode cX9_seenBy 18 = .ok (.iload_n 2, 1) := by decide +kernel
theorem dX9_seenBy_19 : decode cX9_seenBy 19 = .ok (.iload_n 3, 1) := by decide +kernel
theorem dX9_seenBy_20 : decode cX9_seenBy 20 = .ok (.aload_n 0, 1) := by decide +kernel
theorem dX9_seenBy_21 : decode cX9_seenBy 21 = .ok (.getfield 75, 3) := by decide +kernel
theorem dX9_seenBy_24 : decode cX9_seenBy 24 = .ok (.iload_n 1, 1) := by decide +kernel
theorem dX9_seenBy_25 : decode cX9_seenBy 25 = .ok (.aload_n 0, 1) := by decide +kernel
theorem dX9_seenBy_26 : decode cX9_seenBy 26 = .ok (.getfield 29, 3) := by decide +kernel
theorem dX9_seenBy_29 : decode cX9_seenBy 29 = .ok (.iload_n 2, 1) := by decide +kernel
theorem dX9_seenBy_30 : decode cX9_seenBy 30 = .ok (.iaload, 1) := by decide +kernel
theorem dX9_seenBy_31 : decode cX9_seenBy 31 = .ok (.invokevirtual 200, 3) := by decide +kernel
theorem dX9_seenBy_34 : decode cX9_seenBy 34 = .ok (.invokevirtual 203, 3) := by decide +kernel
theorem dX9_seenBy_37 : decode cX9_seenBy 37 = .ok (.goto 4, 3) := by decide +kernel
theorem dX9_seenBy_40 : decode cX9_seenBy 40 = .ok (.iconst 0, 1) := by decide +kernel
theorem dX9_seenBy_41 : decode cX9_seenBy 41 = .ok (.ireturn, 1) := by decide +kernel
theorem dX9_isPair_0 : decode cX9_isPair 0 = .ok (.aload_n 0, 1) := by decide +kernel
theorem dX9_isPair_1 : decode cX9_isPair 1 = .ok (.iload_n 1, 1) := by decide +kernel
theorem dX9_isPair_2 : decode cX9_isPair 2 = .ok (.invokevirtual 176, 3) := by decide +kernel
theorem dX9_isPair_5 : decode cX9_isPair 5 = .ok (.ifCond .eq 15, 3) := by decide +kernel
theorem dX9_isPair_8 : decode cX9_isPair 8 = .ok (.aload_n 0, 1) := by decide +kernel
theorem dX9_isPair_9 : decode cX9_isPair 9 = .ok (.iload_n 2, 1) := by decide +kernel
theorem dX9_isPair_10 : decode cX9_isPair 10 = .ok (.invokevirtual 164, 3) := by decide +kernel
theorem dX9_isPair_13 : decode cX9_isPair 13 = .ok (.ifCond .eq 7, 3) := by decide +kernel
theorem dX9_isPair_16 : decode cX9_isPair 16 = .ok (.iconst 1, 1) := by decide +kernel
theorem dX9_isPair_17 : decode cX9_isPair 17 = .ok (.goto 4, 3) := by decide +kernel
theorem dX9_isPair_20 : decode cX9_isPair 20 = .ok (.iconst 0, 1) := by decide +kernel
theorem dX9_isPair_21 : decode cX9_isPair 21 = .ok (.ireturn, 1) := by decide +kernel
theorem dX9_read_0 : decode cX9_read 0 = .ok (.aload_n 0, 1) := by decide +kernel
theorem dX9_read_1 : decode cX9_read 1 = .ok (.iconst 0, 1) := by decide +kernel
theorem dX9_read_2 : decode cX9_read 2 = .ok (.putfield 91, 3) := by decide +kernel
theorem dX9_read_5 : decode cX9_read 5 = .ok (.aload_n 0, 1) := by decide +kernel
theorem dX9_read_6 : decode cX9_read 6 = .ok (.iload_n 1, 1) := by decide +kernel
theorem dX9_read_7 : decode cX9_read 7 = .ok (.iload_n 2, 1) := by decide +kernel
theorem dX9_read_8 : decode cX9_read 8 = .ok (.invokevirtual 207, 3) := by decide +kernel
theorem dX9_read_11 : decode cX9_read 11 = .ok (.ifCond .ne 9, 3) := by decide +kernel
theorem dX9_read_14 : decode cX9_read 14 = .ok (.aload_n 0, 1) := by decide +kernel
theorem dX9_read_15 : decode cX9_read 15 = .ok (.iconst 1, 1) := by decide +kernel
theorem dX9_read_16 : decode cX9_read 16 = .ok (.invokevirtual 113, 3) := by decide +kernel
theorem dX9_read_19 : decode cX9_read 19 = .ok (.ireturn, 1) := by decide +kernel
theorem dX9_read_20 : decode cX9_read 20 = .ok (.aload_n 0, 1) := by decide +kernel
theorem dX9_read_21 : decode cX9_read 21 = .ok (.getfield 75, 3) := by decide +kernel
theorem dX9_read_24 : decode cX9_read 24 = .ok (.iload_n 1, 1) := by decide +kernel
theorem dX9_read_25 : decode cX9_read 25 = .ok (.aload_n 0, 1) := by decide +kernel
theorem dX9_read_26 : decode cX9_read 26 = .ok (.getfield 29, 3) := by decide +kernel
theorem dX9_read_29 : decode cX9_read 29 = .ok (.iload_n 2, 1) := by decide +kernel
theorem dX9_read_30 : decode cX9_read 30 = .ok (.iaload, 1) := by decide +kernel
theorem dX9_read_31 : decode cX9_read 31 = .ok (.invokevirtual 179, 3) := by decide +kernel
theorem dX9_read_34 : decode cX9_read 34 = .ok (.ifCond .ne 5, 3) := by decide +kernel
theorem dX9_read_37 : decode cX9_read 37 = .ok (.iconst (-1), 1) := by decide +kernel
theorem dX9_read_38 : decode cX9_read 38 = .ok (.ireturn, 1) := by decide +kernel
theorem dX9_read_39 : decode cX9_read 39 = .ok (.aload_n 0, 1) := by decide +kernel
theorem dX9_read_40 : decode cX9_read 40 = .ok (.aload_n 0, 1) := by decide +kernel
theorem dX9_read_41 : decode cX9_read 41 = .ok (.getfield 33, 3) := by decide +kernel
theorem dX9_read_44 : decode cX9_read 44 = .ok (.iload_n 2, 1) := by decide +kernel
theorem dX9_read_45 : decode cX9_read 45 = .ok (.aaload, 1) := by decide +kernel
theorem dX9_read_46 : decode cX9_read 46 = .ok (.arraylength, 1) := by decide +kernel
theorem dX9_read_47 : decode cX9_read 47 = .ok (.putfield 210, 3) := by decide +kernel
theorem dX9_read_50 : decode cX9_read 50 = .ok (.iconst 0, 1) := by decide +kernel
theorem dX9_read_51 : decode cX9_read 51 = .ok (.istore_n 3, 1) := by decide +kernel
theorem dX9_read_52 : decode cX9_read 52 = .ok (.iload_n 3, 1) := by decide +kernel
theorem dX9_read_53 : decode cX9_read 53 = .ok (.aload_n 0, 1) := by decide +kernel
theorem dX9_read_54 : decode cX9_read 54 = .ok (.getfield 210, 3) := by decide +kernel
theorem dX9_read_57 : decode cX9_read 57 = .ok (.if_icmp .ge 22, 3) := by decide +kernel
theorem dX9_read_60 : decode cX9_read 60 = .ok (.aload_n 0, 1) := by decide +kernel
theorem dX9_read_61 : decode cX9_read 61 = .ok (.getfield 17, 3) := by decide +kernel
theorem dX9_read_64 : decode cX9_read 64 = .ok (.iload_n 3, 1) := by decide +kernel
theorem dX9_read_65 : decode cX9_read 65 = .ok (.aload_n 0, 1) := by decide +kernel
theorem dX9_read_66 : decode cX9_read 66 = .ok (.iload_n 1, 1) := by decide +kernel
theorem dX9_read_67 : decode cX9_read 67 = .ok (.iload_n 2, 1) := by decide +kernel
theorem dX9_read_68 : decode cX9_read 68 = .ok (.iload_n 3, 1) := by decide +kernel
theorem dX9_read_69 : decode cX9_read 69 = .ok (.invokevirtual 213, 3) := by decide +kernel
theorem dX9_read_72 : decode cX9_read 72 = .ok (.iastore, 1) := by decide +kernel
theorem dX9_read_73 : decode cX9_read 73 = .ok (.iinc 3 1, 3) := by decide +kernel
theorem dX9_read_76 : decode cX9_read 76 = .ok (.goto (-24), 3) := by decide +kernel
theorem dX9_read_79 : decode cX9_read 79 = .ok (.aload_n 0, 1) := by decide +kernel
theorem dX9_read_80 : decode cX9_read 80 = .ok (.getfield 75, 3) := by decide +kernel
theorem dX9_read_83 : decode cX9_read 83 = .ok (.getfield 167, 3) := by decide +kernel
theorem dX9_read_86 : decode cX9_read 86 = .ok (.iload_n 2, 1) := by decide +kernel
theorem dX9_read_87 : decode cX9_read 87 = .ok (.dup2, 1) := by decide +kernel
theorem dX9_read_88 : decode cX9_read 88 = .ok (.iaload, 1) := by decide +kernel
theorem dX9_read_89 : decode cX9_read 89 = .ok (.iconst 1, 1) := by decide +kernel
theorem dX9_read_90 : decode cX9_read 90 = .ok (.iload_n 1, 1) := by decide +kernel
theorem dX9_read_91 : decode cX9_read 91 = .ok (.ishl, 1) := by decide +kernel
theorem dX9_read_92 : decode cX9_read 92 = .ok (.ior, 1) := by decide +kernel
theorem dX9_read_93 : decode cX9_read 93 = .ok (.iastore, 1) := by decide +kernel
theorem dX9_read_94 : decode cX9_read 94 = .ok (.aload_n 0, 1) := by decide +kernel
theorem dX9_read_95 : decode cX9_read 95 = .ok (.getfield 210, 3) := by decide +kernel
theorem dX9_read_98 : decode cX9_read 98 = .ok (.ireturn, 1) := by decide +kernel
theorem dX9_byteAt_0 : decode cX9_byteAt 0 = .ok (.aload_n 0, 1) := by decide +kernel
theorem dX9_byteAt_1 : decode cX9_byteAt 1 = .ok (.iconst 0, 1) := by decide +kernel
theorem dX9_byteAt_2 : decode cX9_byteAt 2 = .ok (.putfield 91, 3) := by decide +kernel
theorem dX9_byteAt_5 : decode cX9_byteAt 5 = .ok (.iload_n 1, 1) := by decide +kernel
theorem dX9_byteAt_6 : decode cX9_byteAt 6 = .ok (.iconst 0, 1) := by decide +kernel
theorem dX9_byteAt_7 : decode cX9_byteAt 7 = .ok (.aload_n 0, 1) := by decide +kernel
theorem dX9_byteAt_8 : decode cX9_byteAt 8 = .ok (.getfield 210, 3) := by decide +kernel
theorem dX9_byteAt_11 : decode cX9_byteAt 11 = .ok (.iconst 1, 1) := by decide +kernel
theorem dX9_byteAt_12 : decode cX9_byteAt 12 = .ok (.isub, 1) := by decide +kernel
theorem dX9_byteAt_13 : decode cX9_byteAt 13 = .ok (.invokestatic 97, 3) := by decide +kernel
theorem dX9_byteAt_16 : decode cX9_byteAt 16 = .ok (.ifCond .eq 12, 3) := by decide +kernel
theorem dX9_byteAt_19 : decode cX9_byteAt 19 = .ok (.aload_n 0, 1) := by decide +kernel
theorem dX9_byteAt_20 : decode cX9_byteAt 20 = .ok (.getfield 17, 3) := by decide +kernel
theorem dX9_byteAt_23 : decode cX9_byteAt 23 = .ok (.iload_n 1, 1) := by decide +kernel
theorem dX9_byteAt_24 : decode cX9_byteAt 24 = .ok (.iaload, 1) := by decide +kernel
theorem dX9_byteAt_25 : decode cX9_byteAt 25 = .ok (.goto 8, 3) := by decide +kernel
theorem dX9_byteAt_28 : decode cX9_byteAt 28 = .ok (.aload_n 0, 1) := by decide +kernel
theorem dX9_byteAt_29 : decode cX9_byteAt 29 = .ok (.iconst 1, 1) := by decide +kernel
theorem dX9_byteAt_30 : decode cX9_byteAt 30 = .ok (.invokevirtual 113, 3) := by decide +kernel
theorem dX9_byteAt_33 : decode cX9_byteAt 33 = .ok (.ireturn, 1) := by decide +kernel
theorem dX9_hiddenOf_0 : decode cX9_hiddenOf 0 = .ok (.iconst 0, 1) := by decide +kernel
theorem dX9_hiddenOf_1 : decode cX9_hiddenOf 1 = .ok (.istore_n 3, 1) := by decide +kernel
theorem dX9_hiddenOf_2 : decode cX9_hiddenOf 2 = .ok (.iconst 0, 1) := by decide +kernel
theorem dX9_hiddenOf_3 : decode cX9_hiddenOf 3 = .ok (.istore 4, 2) := by decide +kernel
theorem dX9_hiddenOf_5 : decode cX9_hiddenOf 5 = .ok (.iload 4, 2) := by decide +kernel
theorem dX9_hiddenOf_7 : decode cX9_hiddenOf 7 = .ok (.aload_n 0, 1) := by decide +kernel
theorem dX9_hiddenOf_8 : decode cX9_hiddenOf 8 = .ok (.getfield 33, 3) := by decide +kernel
theorem dX9_hiddenOf_11 : decode cX9_hiddenOf 11 = .ok (.iload_n 2, 1) := by decide +kernel
theorem dX9_hiddenOf_12 : decode cX9_hiddenOf 12 = .ok (.aaload, 1) := by decide +kernel
theorem dX9_hiddenOf_13 : decode cX9_hiddenOf 13 = .ok (.arraylength, 1) := by decide +kernel
theorem dX9_hiddenOf_14 : decode cX9_hiddenOf 14 = .ok (.if_icmp .ge 37, 3) := by decide +kernel
theorem dX9_hiddenOf_17 : decode cX9_hiddenOf 17 = .ok (.iload_n 3, 1) := by decide +kernel
theorem dX9_hiddenOf_18 : decode cX9_hiddenOf 18 = .ok (.aload_n 0, 1) := by decide +kernel
theorem dX9_hiddenOf_19 : decode cX9_hiddenOf 19 = .ok (.iload_n 1, 1) := by decide +kernel
theorem dX9_hiddenOf_20 : decode cX9_hiddenOf 20 = .ok (.iload_n 2, 1) := by decide +kernel
theorem dX9_hiddenOf_21 : decode cX9_hiddenOf 21 = .ok (.iload 4, 2) := by decide +kernel
theorem dX9_hiddenOf_23 : decode cX9_hiddenOf 23 = .ok (.invokevirtual 213, 3) := by decide +kernel
theorem dX9_hiddenOf_26 : decode cX9_hiddenOf 26 = .ok (.aload_n 0, 1) := by decide +kernel
theorem dX9_hiddenOf_27 : decode cX9_hiddenOf 27 = .ok (.getfield 33, 3) := by decide +kernel
theorem dX9_hiddenOf_30 : decode cX9_hiddenOf 30 = .ok (.iload_n 2, 1) := by decide +kernel
theorem dX9_hiddenOf_31 : decode cX9_hiddenOf 31 = .ok (.aaload, 1) := by decide +kernel
theorem dX9_hiddenOf_32 : decode cX9_hiddenOf 32 = .ok (.iload 4, 2) := by decide +kernel
theorem dX9_hiddenOf_34 : decode cX9_hiddenOf 34 = .ok (.iaload, 1) := by decide +kernel
theorem dX9_hiddenOf_35 : decode cX9_hiddenOf 35 = .ok (.if_icmp .ne 7, 3) := by decide +kernel
theorem dX9_hiddenOf_38 : decode cX9_hiddenOf 38 = .ok (.iconst 0, 1) := by decide +kernel
theorem dX9_hiddenOf_39 : decode cX9_hiddenOf 39 = .ok (.goto 4, 3) := by decide +kernel
theorem dX9_hiddenOf_42 : decode cX9_hiddenOf 42 = .ok (.iconst 1, 1) := by decide +kernel
theorem dX9_hiddenOf_43 : decode cX9_hiddenOf 43 = .ok (.iadd, 1) := by decide +kernel
theorem dX9_hiddenOf_44 : decode cX9_hiddenOf 44 = .ok (.istore_n 3, 1) := by decide +kernel
theorem dX9_hiddenOf_45 : decode cX9_hiddenOf 45 = .ok (.iinc 4 1, 3) := by decide +kernel
theorem dX9_hiddenOf_48 : decode cX9_hiddenOf 48 = .ok (.goto (-43), 3) := by decide +kernel
theorem dX9_hiddenOf_51 : decode cX9_hiddenOf 51 = .ok (.iload_n 3, 1) := by decide +kernel
theorem dX9_hiddenOf_52 : decode cX9_hiddenOf 52 = .ok (.ireturn, 1) := by decide +kernel
theorem dX9_hidden_0 : decode cX9_hidden 0 = .ok (.aload_n 0, 1) := by decide +kernel
theorem dX9_hidden_1 : decode cX9_hidden 1 = .ok (.iconst 0, 1) := by decide +kernel
theorem dX9_hidden_2 : decode cX9_hidden 2 = .ok (.putfield 91, 3) := by decide +kernel
theorem dX9_hidden_5 : decode cX9_hidden 5 = .ok (.aload_n 0, 1) := by decide +kernel
theorem dX9_hidden_6 : decode cX9_hidden 6 = .ok (.iload_n 1, 1) := by decide +kernel
theorem dX9_hidden_7 : decode cX9_hidden 7 = .ok (.iload_n 2, 1) := by decide +kernel
theorem dX9_hidden_8 : decode cX9_hidden 8 = .ok (.invokevirtual 207, 3) := by decide +kernel
theorem dX9_hidden_11 : decode cX9_hidden 11 = .ok (.ifCond .eq 12, 3) := by decide +kernel
theorem dX9_hidden_14 : decode cX9_hidden 14 = .ok (.aload_n 0, 1) := by decide +kernel
theorem dX9_hidden_15 : decode cX9_hidden 15 = .ok (.iload_n 1, 1) := by decide +kernel
theorem dX9_hidden_16 : decode cX9_hidden 16 = .ok (.iload_n 2, 1) := by decide +kernel
theorem dX9_hidden_17 : decode cX9_hidden 17 = .ok (.invokevirtual 216, 3) := by decide +kernel
theorem dX9_hidden_20 : decode cX9_hidden 20 = .ok (.goto 8, 3) := by decide +kernel
theorem dX9_hidden_23 : decode cX9_hidden 23 = .ok (.aload_n 0, 1) := by decide +kernel
theorem dX9_hidden_24 : decode cX9_hidden 24 = .ok (.iconst 1, 1) := by decide +kernel
theorem dX9_hidden_25 : decode cX9_hidden 25 = .ok (.invokevirtual 113, 3) := by decide +kernel
theorem dX9_hidden_28 : decode cX9_hidden 28 = .ok (.ireturn, 1) := by decide +kernel
theorem dX9_differs_0 : decode cX9_differs 0 = .ok (.aload_n 0, 1) := by decide +kernel
theorem dX9_differs_1 : decode cX9_differs 1 = .ok (.iconst 0, 1) := by decide +kernel
theorem dX9_differs_2 : decode cX9_differs 2 = .ok (.putfield 91, 3) := by decide +kernel
theorem dX9_differs_5 : decode cX9_differs 5 = .ok (.aload_n 0, 1) := by decide +kernel
theorem dX9_differs_6 : decode cX9_differs 6 = .ok (.iload_n 1, 1) := by decide +kernel
theorem dX9_differs_7 : decode cX9_differs 7 = .ok (.iload_n 3, 1) := by decide +kernel
theorem dX9_differs_8 : decode cX9_differs 8 = .ok (.invokevirtual 207, 3) := by decide +kernel
theorem dX9_differs_11 : decode cX9_differs 11 = .ok (.ifCond .eq 11, 3) := by decide +kernel
theorem dX9_differs_14 : decode cX9_differs 14 = .ok (.aload_n 0, 1) := by decide +kernel
theorem dX9_differs_15 : decode cX9_differs 15 = .ok (.iload_n 2, 1) := by decide +kernel
theorem dX9_differs_16 : decode cX9_differs 16 = .ok (.invokevirtual 176, 3) := by decide +kernel
theorem dX9_differs_19 : decode cX9_differs 19 = .ok (.ifCond .ne 9, 3) := by decide +kernel
theorem dX9_differs_22 : decode cX9_differs 22 = .ok (.aload_n 0, 1) := by decide +kernel
theorem dX9_differs_23 : decode cX9_differs 23 = .ok (.iconst 1, 1) := by decide +kernel
theorem dX9_differs_24 : decode cX9_differs 24 = .ok (.invokevirtual 113, 3) := by decide +kernel
theorem dX9_differs_27 : decode cX9_differs 27 = .ok (.ireturn, 1) := by decide +kernel
theorem dX9_differs_28 : decode cX9_differs 28 = .ok (.iconst 0, 1) := by decide +kernel
theorem dX9_differs_29 : decode cX9_differs 29 = .ok (.istore 4, 2) := by decide +kernel
theorem dX9_differs_31 : decode cX9_differs 31 = .ok (.iload 4, 2) := by decide +kernel
theorem dX9_differs_33 : decode cX9_differs 33 = .ok (.aload_n 0, 1) := by decide +kernel
theorem dX9_differs_34 : decode cX9_differs 34 = .ok (.getfield 33, 3) := by decide +kernel
theorem dX9_differs_37 : decode cX9_differs 37 = .ok (.iload_n 3, 1) := by decide +kernel
theorem dX9_differs_38 : decode cX9_differs 38 = .ok (.aaload, 1) := by decide +kernel
theorem dX9_differs_39 : decode cX9_differs 39 = .ok (.arraylength, 1) := by decide +kernel
theorem dX9_differs_40 : decode cX9_differs 40 = .ok (.if_icmp .ge 31, 3) := by decide +kernel
theorem dX9_differs_43 : decode cX9_differs 43 = .ok (.aload_n 0, 1) := by decide +kernel
theorem dX9_differs_44 : decode cX9_differs 44 = .ok (.iload_n 1, 1) := by decide +kernel
theorem dX9_differs_45 : decode cX9_differs 45 = .ok (.iload_n 3, 1) := by decide +kernel
theorem dX9_differs_46 : decode cX9_differs 46 = .ok (.iload 4, 2) := by decide +kernel
theorem dX9_differs_48 : decode cX9_differs 48 = .ok (.invokevirtual 213, 3) := by decide +kernel
theorem dX9_differs_51 : decode cX9_differs 51 = .ok (.aload_n 0, 1) := by decide +kernel
theorem dX9_differs_52 : decode cX9_differs 52 = .ok (.iload_n 2, 1) := by decide +kernel
theorem dX9_differs_53 : decode cX9_differs 53 = .ok (.iload_n 3, 1) := by decide +kernel
theorem dX9_differs_54 : decode cX9_differs 54 = .ok (.iload 4, 2) := by decide +kernel
theorem dX9_differs_56 : decode cX9_differs 56 = .ok (.invokevirtual 213, 3) := by decide +kernel
theorem dX9_differs_59 : decode cX9_differs 59 = .ok (.if_icmp .eq 6, 3) := by decide +kernel
theorem dX9_differs_62 : decode cX9_differs 62 = .ok (.iload 4, 2) := by decide +kernel
theorem dX9_differs_64 : decode cX9_differs 64 = .ok (.ireturn, 1) := by decide +kernel
theorem dX9_differs_65 : decode cX9_differs 65 = .ok (.iinc 4 1, 3) := by decide +kernel
theorem dX9_differs_68 : decode cX9_differs 68 = .ok (.goto (-37), 3) := by decide +kernel
theorem dX9_differs_71 : decode cX9_differs 71 = .ok (.iconst (-1), 1) := by decide +kernel
theorem dX9_differs_72 : decode cX9_differs 72 = .ok (.ireturn, 1) := by decide +kernel
theorem dX9_find_0 : decode cX9_find 0 = .ok (.aload_n 0, 1) := by decide +kernel
theorem dX9_find_1 : decode cX9_find 1 = .ok (.iconst 0, 1) := by decide +kernel
theorem dX9_find_2 : decode cX9_find 2 = .ok (.putfield 91, 3) := by decide +kernel
theorem dX9_find_5 : decode cX9_find 5 = .ok (.aload_n 0, 1) := by decide +kernel
theorem dX9_find_6 : decode cX9_find 6 = .ok (.iload_n 1, 1) := by decide +kernel
theorem dX9_find_7 : decode cX9_find 7 = .ok (.iload_n 2, 1) := by decide +kernel
theorem dX9_find_8 : decode cX9_find 8 = .ok (.invokevirtual 207, 3) := by decide +kernel
theorem dX9_find_11 : decode cX9_find 11 = .ok (.ifCond .ne 9, 3) := by decide +kernel
theorem dX9_find_14 : decode cX9_find 14 = .ok (.aload_n 0, 1) := by decide +kernel
theorem dX9_find_15 : decode cX9_find 15 = .ok (.iconst 1, 1) := by decide +kernel
theorem dX9_find_16 : decode cX9_find 16 = .ok (.invokevirtual 113, 3) := by decide +kernel
theorem dX9_find_19 : decode cX9_find 19 = .ok (.ireturn, 1) := by decide +kernel
theorem dX9_find_20 : decode cX9_find 20 = .ok (.aload_n 0, 1) := by decide +kernel
theorem dX9_find_21 : decode cX9_find 21 = .ok (.getfield 110, 3) := by decide +kernel
theorem dX9_find_24 : decode cX9_find 24 = .ok (.ifCond .eq 20, 3) := by decide +kernel
theorem dX9_find_27 : decode cX9_find 27 = .ok (.aload_n 0, 1) := by decide +kernel
theorem dX9_find_28 : decode cX9_find 28 = .ok (.getfield 75, 3) := by decide +kernel
theorem dX9_find_31 : decode cX9_find 31 = .ok (.iload_n 1, 1) := by decide +kernel
theorem dX9_find_32 : decode cX9_find 32 = .ok (.aload_n 0, 1) := by decide +kernel
theorem dX9_find_33 : decode cX9_find 33 = .ok (.getfield 29, 3) := by decide +kernel
theorem dX9_find_36 : decode cX9_find 36 = .ok (.iload_n 2, 1) := by decide +kernel
theorem dX9_find_37 : decode cX9_find 37 = .ok (.iaload, 1) := by decide +kernel
theorem dX9_find_38 : decode cX9_find 38 = .ok (.invokevirtual 179, 3) := by decide +kernel
theorem dX9_find_41 : decode cX9_find 41 = .ok (.ifCond .ne 5, 3) := by decide +kernel
theorem dX9_find_44 : decode cX9_find 44 = .ok (.iconst (-1), 1) := by decide +kernel
theorem dX9_find_45 : decode cX9_find 45 = .ok (.ireturn, 1) := by decide +kernel
theorem dX9_find_46 : decode cX9_find 46 = .ok (.iconst 0, 1) := by decide +kernel
theorem dX9_find_47 : decode cX9_find 47 = .ok (.istore_n 3, 1) := by decide +kernel
theorem dX9_find_48 : decode cX9_find 48 = .ok (.iload_n 3, 1) := by decide +kernel
theorem dX9_find_49 : decode cX9_find 49 = .ok (.aload_n 0, 1) := by decide +kernel
theorem dX9_find_50 : decode cX9_find 50 = .ok (.getfield 110, 3) := by decide +kernel
theorem dX9_find_53 : decode cX9_find 53 = .ok (.iadd, 1) := by decide +kernel
theorem dX9_find_54 : decode cX9_find 54 = .ok (.aload_n 0, 1) := by decide +kernel
theorem dX9_find_55 : decode cX9_find 55 = .ok (.getfield 33, 3) := by decide +kernel
theorem dX9_find_58 : decode cX9_find 58 = .ok (.iload_n 2, 1) := by decide +kernel
theorem dX9_find_59 : decode cX9_find 59 = .ok (.aaload, 1) := by decide +kernel
theorem dX9_find_60 : decode cX9_find 60 = .ok (.arraylength, 1) := by decide +kernel
theorem dX9_find_61 : decode cX9_find 61 = .ok (.if_icmp .gt 58, 3) := by decide +kernel
theorem dX9_find_64 : decode cX9_find 64 = .ok (.iconst 0, 1) := by decide +kernel
theorem dX9_find_65 : decode cX9_find 65 = .ok (.istore 4, 2) := by decide +kernel
theorem dX9_find_67 : decode cX9_find 67 = .ok (.iload 4, 2) := by decide +kernel
theorem dX9_find_69 : decode cX9_find 69 = .ok (.aload_n 0, 1) := by decide +kernel
theorem dX9_find_70 : decode cX9_find 70 = .ok (.getfield 110, 3) := by decide +kernel
theorem dX9_find_73 : decode cX9_find 73 = .ok (.if_icmp .ge 29, 3) := by decide +kernel
theorem dX9_find_76 : decode cX9_find 76 = .ok (.aload_n 0, 1) := by decide +kernel
theorem dX9_find_77 : decode cX9_find 77 = .ok (.iload_n 1, 1) := by decide +kernel
theorem dX9_find_78 : decode cX9_find 78 = .ok (.iload_n 2, 1) := by decide +kernel
theorem dX9_find_79 : decode cX9_find 79 = .ok (.iload_n 3, 1) := by decide +kernel
theorem dX9_find_80 : decode cX9_find 80 = .ok (.iload 4, 2) := by decide +kernel
theorem dX9_find_82 : decode cX9_find 82 = .ok (.iadd, 1) := by decide +kernel
theorem dX9_find_83 : decode cX9_find 83 = .ok (.invokevirtual 213, 3) := by decide +kernel
theorem dX9_find_86 : decode cX9_find 86 = .ok (.aload_n 0, 1) := by decide +kernel
theorem dX9_find_87 : decode cX9_find 87 = .ok (.getfield 9, 3) := by decide +kernel
theorem dX9_find_90 : decode cX9_find 90 = .ok (.iload 4, 2) := by decide +kernel
theorem dX9_find_92 : decode cX9_find 92 = .ok (.iaload, 1) := by decide +kernel
theorem dX9_find_93 : decode cX9_find 93 = .ok (.if_icmp .ne 9, 3) := by decide +kernel
theorem dX9_find_96 : decode cX9_find 96 = .ok (.iinc 4 1, 3) := by decide +kernel
theorem dX9_find_99 : decode cX9_find 99 = .ok (.goto (-32), 3) := by decide +kernel
theorem dX9_find_102 : decode cX9_find 102 = .ok (.iload 4, 2) := by decide +kernel
theorem dX9_find_104 : decode cX9_find 104 = .ok (.aload_n 0, 1) := by decide +kernel
theorem dX9_find_105 : decode cX9_find 105 = .ok (.getfield 110, 3) := by decide +kernel
theorem dX9_find_108 : decode cX9_find 108 = .ok (.if_icmp .ne 5, 3) := by decide +kernel
theorem dX9_find_111 : decode cX9_find 111 = .ok (.iload_n 3, 1) := by decide +kernel
theorem dX9_find_112 : decode cX9_find 112 = .ok (.ireturn, 1) := by decide +kernel
theorem dX9_find_113 : decode cX9_find 113 = .ok (.iinc 3 1, 3) := by decide +kernel
theorem dX9_find_116 : decode cX9_find 116 = .ok (.goto (-68), 3) := by decide +kernel
theorem dX9_find_119 : decode cX9_find 119 = .ok (.iconst (-1), 1) := by decide +kernel
theorem dX9_find_120 : decode cX9_find 120 = .ok (.ireturn, 1) := by decide +kernel
theorem dX9_least_0 : decode cX9_least 0 = .ok (.aload_n 0, 1) := by decide +kernel
theorem dX9_least_1 : decode cX9_least 1 = .ok (.iconst 0, 1) := by decide +kernel
theorem dX9_least_2 : decode cX9_least 2 = .ok (.putfield 91, 3) := by decide +kernel
theorem dX9_least_5 : decode cX9_least 5 = .ok (.aload_n 0, 1) := by decide +kernel
theorem dX9_least_6 : decode cX9_least 6 = .ok (.iload_n 1, 1) := by decide +kernel
theorem dX9_least_7 : decode cX9_least 7 = .ok (.invokevirtual 164, 3) := by decide +kernel
theorem dX9_least_10 : decode cX9_least 10 = .ok (.ifCond .ne 9, 3) := by decide +kernel
theorem dX9_least_13 : decode cX9_least 13 = .ok (.aload_n 0, 1) := by decide +kernel
theorem dX9_least_14 : decode cX9_least 14 = .ok (.iconst 1, 1) := by decide +kernel
theorem dX9_least_15 : decode cX9_least 15 = .ok (.invokevirtual 113, 3) := by decide +kernel
theorem dX9_least_18 : decode cX9_least 18 = .ok (.ireturn, 1) := by decide +kernel
theorem dX9_least_19 : decode cX9_least 19 = .ok (.iload_n 2, 1) := by decide +kernel
theorem dX9_least_20 : decode cX9_least 20 = .ok (.iconst 0, 1) := by decide +kernel
theorem dX9_least_21 : decode cX9_least 21 = .ok (.iload_n 3, 1) := by decide +kernel
theorem dX9_least_22 : decode cX9_least 22 = .ok (.invokestatic 97, 3) := by decide +kernel
theorem dX9_least_25 : decode cX9_least 25 = .ok (.ifCond .eq 14, 3) := by decide +kernel
theorem dX9_least_28 : decode cX9_least 28 = .ok (.iload_n 3, 1) := by decide +kernel
theorem dX9_least_29 : decode cX9_least 29 = .ok (.aload_n 0, 1) := by decide +kernel
theorem dX9_least_30 : decode cX9_least 30 = .ok (.getfield 33, 3) := by decide +kernel
theorem dX9_least_33 : decode cX9_least 33 = .ok (.iload_n 1, 1) := by decide +kernel
theorem dX9_least_34 : decode cX9_least 34 = .ok (.aaload, 1) := by decide +kernel
theorem dX9_least_35 : decode cX9_least 35 = .ok (.arraylength, 1) := by decide +kernel
theorem dX9_least_36 : decode cX9_least 36 = .ok (.if_icmp .le 9, 3) := by decide +kernel
theorem dX9_least_39 : decode cX9_least 39 = .ok (.aload_n 0, 1) := by decide +kernel
theorem dX9_least_40 : decode cX9_least 40 = .ok (.iconst 2, 1) := by decide +kernel
theorem dX9_least_41 : decode cX9_least 41 = .ok (.invokevirtual 113, 3) := by decide +kernel
theorem dX9_least_44 : decode cX9_least 44 = .ok (.ireturn, 1) := by decide +kernel
theorem dX9_least_45 : decode cX9_least 45 = .ok (.aload_n 0, 1) := by decide +kernel
theorem dX9_least_46 : decode cX9_least 46 = .ok (.getfield 20, 3) := by decide +kernel
theorem dX9_least_49 : decode cX9_least 49 = .ok (.aload_n 0, 1) := by decide +kernel
theorem dX9_least_50 : decode cX9_least 50 = .ok (.getfield 29, 3) := by decide +kernel
theorem dX9_least_53 : decode cX9_least 53 = .ok (.iload_n 1, 1) := by decide +kernel
theorem dX9_least_54 : decode cX9_least 54 = .ok (.iaload, 1) := by decide +kernel
theorem dX9_least_55 : decode cX9_least 55 = .ok (.iaload, 1) := by decide +kernel
theorem dX9_least_56 : decode cX9_least 56 = .ok (.istore 4, 2) := by decide +kernel
theorem dX9_least_58 : decode cX9_least 58 = .ok (.iload_n 2, 1) := by decide +kernel
theorem dX9_least_59 : decode cX9_least 59 = .ok (.istore 5, 2) := by decide +kernel
theorem dX9_least_61 : decode cX9_least 61 = .ok (.iload 5, 2) := by decide +kernel
theorem dX9_least_63 : decode cX9_least 63 = .ok (.iload_n 3, 1) := by decide +kernel
theorem dX9_least_64 : decode cX9_least 64 = .ok (.if_icmp .ge 36, 3) := by decide +kernel
theorem dX9_least_67 : decode cX9_least 67 = .ok (.aload_n 0, 1) := by decide +kernel
theorem dX9_least_68 : decode cX9_least 68 = .ok (.iload_n 1, 1) := by decide +kernel
theorem dX9_least_69 : decode cX9_least 69 = .ok (.iload 5, 2) := by decide +kernel
theorem dX9_least_71 : decode cX9_least 71 = .ok (.iload 4, 2) := by decide +kernel
theorem dX9_least_73 : decode cX9_least 73 = .ok (.invokevirtual 203, 3) := by decide +kernel
theorem dX9_least_76 : decode cX9_least 76 = .ok (.aload_n 0, 1) := by decide +kernel
theorem dX9_least_77 : decode cX9_least 77 = .ok (.getfield 33, 3) := by decide +kernel
theorem dX9_least_80 : decode cX9_least 80 = .ok (.iload_n 1, 1) := by decide +kernel
theorem dX9_least_81 : decode cX9_least 81 = .ok (.aaload, 1) := by decide +kernel
theorem dX9_least_82 : decode cX9_least 82 = .ok (.iload 5, 2) := by decide +kernel
theorem dX9_least_84 : decode cX9_least 84 = .ok (.iaload, 1) := by decide +kernel
theorem dX9_least_85 : decode cX9_least 85 = .ok (.if_icmp .eq 9, 3) := by decide +kernel
theorem dX9_least_88 : decode cX9_least 88 = .ok (.iinc 4 1, 3) := by decide +kernel
theorem dX9_least_91 : decode cX9_least 91 = .ok (.goto (-24), 3) := by decide +kernel
theorem dX9_least_94 : decode cX9_least 94 = .ok (.iinc 5 1, 3) := by decide +kernel
theorem dX9_least_97 : decode cX9_least 97 = .ok (.goto (-36), 3) := by decide +kernel
theorem dX9_least_100 : decode cX9_least 100 = .ok (.iload 4, 2) := by decide +kernel
theorem dX9_least_102 : decode cX9_least 102 = .ok (.ireturn, 1) := by decide +kernel
theorem dX9_lend_0 : decode cX9_lend 0 = .ok (.aload_n 0, 1) := by decide +kernel
theorem dX9_lend_1 : decode cX9_lend 1 = .ok (.iconst 0, 1) := by decide +kernel
theorem dX9_lend_2 : decode cX9_lend 2 = .ok (.putfield 91, 3) := by decide +kernel
theorem dX9_lend_5 : decode cX9_lend 5 = .ok (.aload_n 0, 1) := by decide +kernel
theorem dX9_lend_6 : decode cX9_lend 6 = .ok (.iload_n 2, 1) := by decide +kernel
theorem dX9_lend_7 : decode cX9_lend 7 = .ok (.iload_n 1, 1) := by decide +kernel
theorem dX9_lend_8 : decode cX9_lend 8 = .ok (.invokevirtual 207, 3) := by decide +kernel
theorem dX9_lend_11 : decode cX9_lend 11 = .ok (.ifCond .ne 9, 3) := by decide +kernel
theorem dX9_lend_14 : decode cX9_lend 14 = .ok (.aload_n 0, 1) := by decide +kernel
theorem dX9_lend_15 : decode cX9_lend 15 = .ok (.iconst 1, 1) := by decide +kernel
theorem dX9_lend_16 : decode cX9_lend 16 = .ok (.invokevirtual 113, 3) := by decide +kernel
theorem dX9_lend_19 : decode cX9_lend 19 = .ok (.ireturn, 1) := by decide +kernel
theorem dX9_lend_20 : decode cX9_lend 20 = .ok (.iload_n 3, 1) := by decide +kernel
theorem dX9_lend_21 : decode cX9_lend 21 = .ok (.iconst 1, 1) := by decide +kernel
theorem dX9_lend_22 : decode cX9_lend 22 = .ok (.bipush 60, 2) := by decide +kernel
theorem dX9_lend_24 : decode cX9_lend 24 = .ok (.invokestatic 97, 3) := by decide +kernel
theorem dX9_lend_27 : decode cX9_lend 27 = .ok (.ifCond .ne 9, 3) := by decide +kernel
theorem dX9_lend_30 : decode cX9_lend 30 = .ok (.aload_n 0, 1) := by decide +kernel
theorem dX9_lend_31 : decode cX9_lend 31 = .ok (.iconst 2, 1) := by decide +kernel
theorem dX9_lend_32 : decode cX9_lend 32 = .ok (.invokevirtual 113, 3) := by decide +kernel
theorem dX9_lend_35 : decode cX9_lend 35 = .ok (.ireturn, 1) := by decide +kernel
theorem dX9_lend_36 : decode cX9_lend 36 = .ok (.aload_n 0, 1) := by decide +kernel
theorem dX9_lend_37 : decode cX9_lend 37 = .ok (.getfield 75, 3) := by decide +kernel
theorem dX9_lend_40 : decode cX9_lend 40 = .ok (.getfield 158, 3) := by decide +kernel
theorem dX9_lend_43 : decode cX9_lend 43 = .ok (.iload_n 1, 1) := by decide +kernel
theorem dX9_lend_44 : decode cX9_lend 44 = .ok (.iaload, 1) := by decide +kernel
theorem dX9_lend_45 : decode cX9_lend 45 = .ok (.iconst (-1), 1) := by decide +kernel
theorem dX9_lend_46 : decode cX9_lend 46 = .ok (.if_icmp .ne 12, 3) := by decide +kernel
theorem dX9_lend_49 : decode cX9_lend 49 = .ok (.aload_n 0, 1) := by decide +kernel
theorem dX9_lend_50 : decode cX9_lend 50 = .ok (.iload_n 2, 1) := by decide +kernel
theorem dX9_lend_51 : decode cX9_lend 51 = .ok (.iload_n 1, 1) := by decide +kernel
theorem dX9_lend_52 : decode cX9_lend 52 = .ok (.invokevirtual 216, 3) := by decide +kernel
theorem dX9_lend_55 : decode cX9_lend 55 = .ok (.ifCond .le 9, 3) := by decide +kernel
theorem dX9_lend_58 : decode cX9_lend 58 = .ok (.aload_n 0, 1) := by decide +kernel
theorem dX9_lend_59 : decode cX9_lend 59 = .ok (.iconst 3, 1) := by decide +kernel
theorem dX9_lend_60 : decode cX9_lend 60 = .ok (.invokevirtual 113, 3) := by decide +kernel
theorem dX9_lend_63 : decode cX9_lend 63 = .ok (.ireturn, 1) := by decide +kernel
theorem dX9_lend_64 : decode cX9_lend 64 = .ok (.aload_n 0, 1) := by decide +kernel
theorem dX9_lend_65 : decode cX9_lend 65 = .ok (.getfield 75, 3) := by decide +kernel
theorem dX9_lend_68 : decode cX9_lend 68 = .ok (.getfield 158, 3) := by decide +kernel
theorem dX9_lend_71 : decode cX9_lend 71 = .ok (.iload_n 1, 1) := by decide +kernel
theorem dX9_lend_72 : decode cX9_lend 72 = .ok (.iload_n 2, 1) := by decide +kernel
theorem dX9_lend_73 : decode cX9_lend 73 = .ok (.iastore, 1) := by decide +kernel
theorem dX9_lend_74 : decode cX9_lend 74 = .ok (.aload_n 0, 1) := by decide +kernel
theorem dX9_lend_75 : decode cX9_lend 75 = .ok (.getfield 75, 3) := by decide +kernel
theorem dX9_lend_78 : decode cX9_lend 78 = .ok (.getfield 161, 3) := by decide +kernel
theorem dX9_lend_81 : decode cX9_lend 81 = .ok (.iload_n 1, 1) := by decide +kernel
theorem dX9_lend_82 : decode cX9_lend 82 = .ok (.aload_n 0, 1) := by decide +kernel
theorem dX9_lend_83 : decode cX9_lend 83 = .ok (.getfield 75, 3) := by decide +kernel
theorem dX9_lend_86 : decode cX9_lend 86 = .ok (.getfield 219, 3) := by decide +kernel
theorem dX9_lend_89 : decode cX9_lend 89 = .ok (.iload_n 3, 1) := by decide +kernel
theorem dX9_lend_90 : decode cX9_lend 90 = .ok (.iadd, 1) := by decide +kernel
theorem dX9_lend_91 : decode cX9_lend 91 = .ok (.iastore, 1) := by decide +kernel
theorem dX9_lend_92 : decode cX9_lend 92 = .ok (.aload_n 0, 1) := by decide +kernel
theorem dX9_lend_93 : decode cX9_lend 93 = .ok (.getfield 75, 3) := by decide +kernel
theorem dX9_lend_96 : decode cX9_lend 96 = .ok (.getfield 161, 3) := by decide +kernel
theorem dX9_lend_99 : decode cX9_lend 99 = .ok (.iload_n 1, 1) := by decide +kernel
theorem dX9_lend_100 : decode cX9_lend 100 = .ok (.iaload, 1) := by decide +kernel
theorem dX9_lend_101 : decode cX9_lend 101 = .ok (.ireturn, 1) := by decide +kernel
theorem dX9_back_0 : decode cX9_back 0 = .ok (.aload_n 0, 1) := by decide +kernel
theorem dX9_back_1 : decode cX9_back 1 = .ok (.iconst 0, 1) := by decide +kernel
theorem dX9_back_2 : decode cX9_back 2 = .ok (.putfield 91, 3) := by decide +kernel
theorem dX9_back_5 : decode cX9_back 5 = .ok (.aload_n 0, 1) := by decide +kernel
theorem dX9_back_6 : decode cX9_back 6 = .ok (.iload_n 1, 1) := by decide +kernel
theorem dX9_back_7 : decode cX9_back 7 = .ok (.invokevirtual 164, 3) := by decide +kernel
theorem dX9_back_10 : decode cX9_back 10 = .ok (.ifCond .ne 9, 3) := by decide +kernel
theorem dX9_back_13 : decode cX9_back 13 = .ok (.aload_n 0, 1) := by decide +kernel
theorem dX9_back_14 : decode cX9_back 14 = .ok (.iconst 1, 1) := by decide +kernel
theorem dX9_back_15 : decode cX9_back 15 = .ok (.invokevirtual 113, 3) := by decide +kernel
theorem dX9_back_18 : decode cX9_back 18 = .ok (.ireturn, 1) := by decide +kernel
theorem dX9_back_19 : decode cX9_back 19 = .ok (.aload_n 0, 1) := by decide +kernel
theorem dX9_back_20 : decode cX9_back 20 = .ok (.getfield 75, 3) := by decide +kernel
theorem dX9_back_23 : decode cX9_back 23 = .ok (.getfield 158, 3) := by decide +kernel
theorem dX9_back_26 : decode cX9_back 26 = .ok (.iload_n 1, 1) := by decide +kernel
theorem dX9_back_27 : decode cX9_back 27 = .ok (.iaload, 1) := by decide +kernel
theorem dX9_back_28 : decode cX9_back 28 = .ok (.istore_n 2, 1) := by decide +kernel
theorem dX9_back_29 : decode cX9_back 29 = .ok (.aload_n 0, 1) := by decide +kernel
theorem dX9_back_30 : decode cX9_back 30 = .ok (.getfield 75, 3) := by decide +kernel
theorem dX9_back_33 : decode cX9_back 33 = .ok (.getfield 158, 3) := by decide +kernel
theorem dX9_back_36 : decode cX9_back 36 = .ok (.iload_n 1, 1) := by decide +kernel
theorem dX9_back_37 : decode cX9_back 37 = .ok (.iconst (-1), 1) := by decide +kernel
theorem dX9_back_38 : decode cX9_back 38 = .ok (.iastore, 1) := by decide +kernel
theorem dX9_back_39 : decode cX9_back 39 = .ok (.aload_n 0, 1) := by decide +kernel
theorem dX9_back_40 : decode cX9_back 40 = .ok (.getfield 75, 3) := by decide +kernel
theorem dX9_back_43 : decode cX9_back 43 = .ok (.getfield 161, 3) := by decide +kernel
theorem dX9_back_46 : decode cX9_back 46 = .ok (.iload_n 1, 1) := by decide +kernel
theorem dX9_back_47 : decode cX9_back 47 = .ok (.iconst (-1), 1) := by decide +kernel
theorem dX9_back_48 : decode cX9_back 48 = .ok (.iastore, 1) := by decide +kernel
theorem dX9_back_49 : decode cX9_back 49 = .ok (.iload_n 2, 1) := by decide +kernel
theorem dX9_back_50 : decode cX9_back 50 = .ok (.ireturn, 1) := by decide +kernel
theorem dX9_takeIn_0 : decode cX9_takeIn 0 = .ok (.aload_n 0, 1) := by decide +kernel
theorem dX9_takeIn_1 : decode cX9_takeIn 1 = .ok (.iconst 0, 1) := by decide +kernel
theorem dX9_takeIn_2 : decode cX9_takeIn 2 = .ok (.putfield 91, 3) := by decide +kernel
theorem dX9_takeIn_5 : decode cX9_takeIn 5 = .ok (.aload_n 0, 1) := by decide +kernel
theorem dX9_takeIn_6 : decode cX9_takeIn 6 = .ok (.iload_n 1, 1) := by decide +kernel
theorem dX9_takeIn_7 : decode cX9_takeIn 7 = .ok (.invokevirtual 147, 3) := by decide +kernel
theorem dX9_takeIn_10 : decode cX9_takeIn 10 = .ok (.ifCond .ne 9, 3) := by decide +kernel
theorem dX9_takeIn_13 : decode cX9_takeIn 13 = .ok (.aload_n 0, 1) := by decide +kernel
theorem dX9_takeIn_14 : decode cX9_takeIn 14 = .ok (.iconst 1, 1) := by decide +kernel
theorem dX9_takeIn_15 : decode cX9_takeIn 15 = .ok (.invokevirtual 113, 3) := by decide +kernel
theorem dX9_takeIn_18 : decode cX9_takeIn 18 = .ok (.ireturn, 1) := by decide +kernel
theorem dX9_takeIn_19 : decode cX9_takeIn 19 = .ok (.aload_n 0, 1) := by decide +kernel
theorem dX9_takeIn_20 : decode cX9_takeIn 20 = .ok (.getfield 107, 3) := by decide +kernel
theorem dX9_takeIn_23 : decode cX9_takeIn 23 = .ok (.bipush 20, 2) := by decide +kernel
theorem dX9_takeIn_25 : decode cX9_takeIn 25 = .ok (.if_icmp .ne 9, 3) := by decide +kernel
theorem dX9_takeIn_28 : decode cX9_takeIn 28 = .ok (.aload_n 0, 1) := by decide +kernel
theorem dX9_takeIn_29 : decode cX9_takeIn 29 = .ok (.iconst 2, 1) := by decide +kernel
theorem dX9_takeIn_30 : decode cX9_takeIn 30 = .ok (.invokevirtual 113, 3) := by decide +kernel
theorem dX9_takeIn_33 : decode cX9_takeIn 33 = .ok (.ireturn, 1) := by decide +kernel
theorem dX9_takeIn_34 : decode cX9_takeIn 34 = .ok (.aload_n 0, 1) := by decide +kernel
theorem dX9_takeIn_35 : decode cX9_takeIn 35 = .ok (.getfield 46, 3) := by decide +kernel
theorem dX9_takeIn_38 : decode cX9_takeIn 38 = .ok (.aload_n 0, 1) := by decide +kernel
theorem dX9_takeIn_39 : decode cX9_takeIn 39 = .ok (.getfield 107, 3) := by decide +kernel
theorem dX9_takeIn_42 : decode cX9_takeIn 42 = .ok (.iload_n 1, 1) := by decide +kernel
theorem dX9_takeIn_43 : decode cX9_takeIn 43 = .ok (.iastore, 1) := by decide +kernel
theorem dX9_takeIn_44 : decode cX9_takeIn 44 = .ok (.aload_n 0, 1) := by decide +kernel
theorem dX9_takeIn_45 : decode cX9_takeIn 45 = .ok (.getfield 49, 3) := by decide +kernel
theorem dX9_takeIn_48 : decode cX9_takeIn 48 = .ok (.aload_n 0, 1) := by decide +kernel
theorem dX9_takeIn_49 : decode cX9_takeIn 49 = .ok (.getfield 107, 3) := by decide +kernel
theorem dX9_takeIn_52 : decode cX9_takeIn 52 = .ok (.iconst (-1), 1) := by decide +kernel
theorem dX9_takeIn_53 : decode cX9_takeIn 53 = .ok (.iastore, 1) := by decide +kernel
theorem dX9_takeIn_54 : decode cX9_takeIn 54 = .ok (.aload_n 0, 1) := by decide +kernel
theorem dX9_takeIn_55 : decode cX9_takeIn 55 = .ok (.getfield 52, 3) := by decide +kernel
theorem dX9_takeIn_58 : decode cX9_takeIn 58 = .ok (.aload_n 0, 1) := by decide +kernel
theorem dX9_takeIn_59 : decode cX9_takeIn 59 = .ok (.getfield 107, 3) := by decide +kernel
theorem dX9_takeIn_62 : decode cX9_takeIn 62 = .ok (.sipush 1000, 3) := by decide +kernel
theorem dX9_takeIn_65 : decode cX9_takeIn 65 = .ok (.aload_n 0, 1) := by decide +kernel
theorem dX9_takeIn_66 : decode cX9_takeIn 66 = .ok (.getfield 107, 3) := by decide +kernel
theorem dX9_takeIn_69 : decode cX9_takeIn 69 = .ok (.iadd, 1) := by decide +kernel
theorem dX9_takeIn_70 : decode cX9_takeIn 70 = .ok (.iastore, 1) := by decide +kernel
theorem dX9_takeIn_71 : decode cX9_takeIn 71 = .ok (.aload_n 0, 1) := by decide +kernel
theorem dX9_takeIn_72 : decode cX9_takeIn 72 = .ok (.dup, 1) := by decide +kernel
theorem dX9_takeIn_73 : decode cX9_takeIn 73 = .ok (.getfield 107, 3) := by decide +kernel
theorem dX9_takeIn_76 : decode cX9_takeIn 76 = .ok (.iconst 1, 1) := by decide +kernel
theorem dX9_takeIn_77 : decode cX9_takeIn 77 = .ok (.iadd, 1) := by decide +kernel
theorem dX9_takeIn_78 : decode cX9_takeIn 78 = .ok (.putfield 107, 3) := by decide +kernel
theorem dX9_takeIn_81 : decode cX9_takeIn 81 = .ok (.aload_n 0, 1) := by decide +kernel
theorem dX9_takeIn_82 : decode cX9_takeIn 82 = .ok (.getfield 107, 3) := by decide +kernel
theorem dX9_takeIn_85 : decode cX9_takeIn 85 = .ok (.iconst 1, 1) := by decide +kernel
theorem dX9_takeIn_86 : decode cX9_takeIn 86 = .ok (.isub, 1) := by decide +kernel
theorem dX9_takeIn_87 : decode cX9_takeIn 87 = .ok (.ireturn, 1) := by decide +kernel
theorem dX9_add_0 : decode cX9_add 0 = .ok (.iconst 4, 1) := by decide +kernel
theorem dX9_add_1 : decode cX9_add 1 = .ok (.newarray .int, 2) := by decide +kernel
theorem dX9_add_3 : decode cX9_add 3 = .ok (.dup, 1) := by decide +kernel
theorem dX9_add_4 : decode cX9_add 4 = .ok (.iconst 0, 1) := by decide +kernel
theorem dX9_add_5 : decode cX9_add 5 = .ok (.aload_n 0, 1) := by decide +kernel
theorem dX9_add_6 : decode cX9_add 6 = .ok (.getfield 75, 3) := by decide +kernel
theorem dX9_add_9 : decode cX9_add 9 = .ok (.getfield 219, 3) := by decide +kernel
theorem dX9_add_12 : decode cX9_add 12 = .ok (.iastore, 1) := by decide +kernel
theorem dX9_add_13 : decode cX9_add 13 = .ok (.dup, 1) := by decide +kernel
theorem dX9_add_14 : decode cX9_add 14 = .ok (.iconst 1, 1) := by decide +kernel
theorem dX9_add_15 : decode cX9_add 15 = .ok (.iload_n 2, 1) := by decide +kernel
theorem dX9_add_16 : decode cX9_add 16 = .ok (.iastore, 1) := by decide +kernel
theorem dX9_add_17 : decode cX9_add 17 = .ok (.dup, 1) := by decide +kernel
theorem dX9_add_18 : decode cX9_add 18 = .ok (.iconst 2, 1) := by decide +kernel
theorem dX9_add_19 : decode cX9_add 19 = .ok (.iload_n 3, 1) := by decide +kernel
theorem dX9_add_20 : decode cX9_add 20 = .ok (.iastore, 1) := by decide +kernel
theorem dX9_add_21 : decode cX9_add 21 = .ok (.dup, 1) := by decide +kernel
theorem dX9_add_22 : decode cX9_add 22 = .ok (.iconst 3, 1) := by decide +kernel
theorem dX9_add_23 : decode cX9_add 23 = .ok (.iload 4, 2) := by decide +kernel
theorem dX9_add_25 : decode cX9_add 25 = .ok (.iastore, 1) := by decide +kernel
theorem dX9_add_26 : decode cX9_add 26 = .ok (.astore 5, 2) := by decide +kernel
theorem dX9_add_28 : decode cX9_add 28 = .ok (.aload 5, 2) := by decide +kernel
theorem dX9_add_30 : decode cX9_add 30 = .ok (.iconst 0, 1) := by decide +kernel
theorem dX9_add_31 : decode cX9_add 31 = .ok (.aload_n 0, 1) := by decide +kernel
theorem dX9_add_32 : decode cX9_add 32 = .ok (.getfield 58, 3) := by decide +kernel
theorem dX9_add_35 : decode cX9_add 35 = .ok (.iconst 4, 1) := by decide +kernel
theorem dX9_add_36 : decode cX9_add 36 = .ok (.bipush 12, 2) := by decide +kernel
theorem dX9_add_38 : decode cX9_add 38 = .ok (.iload_n 1, 1) := by decide +kernel
theorem dX9_add_39 : decode cX9_add 39 = .ok (.imul, 1) := by decide +kernel
theorem dX9_add_40 : decode cX9_add 40 = .ok (.aload_n 0, 1) := by decide +kernel
theorem dX9_add_41 : decode cX9_add 41 = .ok (.getfield 55, 3) := by decide +kernel
theorem dX9_add_44 : decode cX9_add 44 = .ok (.iload_n 1, 1) := by decide +kernel
theorem dX9_add_45 : decode cX9_add 45 = .ok (.iaload, 1) := by decide +kernel
theorem dX9_add_46 : decode cX9_add 46 = .ok (.iadd, 1) := by decide +kernel
theorem dX9_add_47 : decode cX9_add 47 = .ok (.imul, 1) := by decide +kernel
theorem dX9_add_48 : decode cX9_add 48 = .ok (.iconst 4, 1) := by decide +kernel
theorem dX9_add_49 : decode cX9_add 49 = .ok (.invokestatic 222, 3) := by decide +kernel
theorem dX9_add_52 : decode cX9_add 52 = .ok (.aload_n 0, 1) := by decide +kernel
theorem dX9_add_53 : decode cX9_add 53 = .ok (.getfield 55, 3) := by decide +kernel
theorem dX9_add_56 : decode cX9_add 56 = .ok (.iload_n 1, 1) := by decide +kernel
theorem dX9_add_57 : decode cX9_add 57 = .ok (.dup2, 1) := by decide +kernel
theorem dX9_add_58 : decode cX9_add 58 = .ok (.iaload, 1) := by decide +kernel
theorem dX9_add_59 : decode cX9_add 59 = .ok (.iconst 1, 1) := by decide +kernel
theorem dX9_add_60 : decode cX9_add 60 = .ok (.iadd, 1) := by decide +kernel
theorem dX9_add_61 : decode cX9_add 61 = .ok (.iastore, 1) := by decide +kernel
theorem dX9_add_62 : decode cX9_add 62 = .ok (.aload_n 0, 1) := by decide +kernel
theorem dX9_add_63 : decode cX9_add 63 = .ok (.getfield 49, 3) := by decide +kernel
theorem dX9_add_66 : decode cX9_add 66 = .ok (.iload_n 1, 1) := by decide +kernel
theorem dX9_add_67 : decode cX9_add 67 = .ok (.iload_n 3, 1) := by decide +kernel
theorem dX9_add_68 : decode cX9_add 68 = .ok (.iastore, 1) := by decide +kernel
theorem dX9_add_69 : decode cX9_add 69 = .ok (.aload_n 0, 1) := by decide +kernel
theorem dX9_add_70 : decode cX9_add 70 = .ok (.getfield 55, 3) := by decide +kernel
theorem dX9_add_73 : decode cX9_add 73 = .ok (.iload_n 1, 1) := by decide +kernel
theorem dX9_add_74 : decode cX9_add 74 = .ok (.iaload, 1) := by decide +kernel
theorem dX9_add_75 : decode cX9_add 75 = .ok (.ireturn, 1) := by decide +kernel
theorem dX9_hand_0 : decode cX9_hand 0 = .ok (.aload_n 0, 1) := by decide +kernel
theorem dX9_hand_1 : decode cX9_hand 1 = .ok (.iconst 0, 1) := by decide +kernel
theorem dX9_hand_2 : decode cX9_hand 2 = .ok (.putfield 91, 3) := by decide +kernel
theorem dX9_hand_5 : decode cX9_hand 5 = .ok (.aload_n 0, 1) := by decide +kernel
theorem dX9_hand_6 : decode cX9_hand 6 = .ok (.iload_n 1, 1) := by decide +kernel
theorem dX9_hand_7 : decode cX9_hand 7 = .ok (.invokevirtual 228, 3) := by decide +kernel
theorem dX9_hand_10 : decode cX9_hand 10 = .ok (.ifCond .eq 16, 3) := by decide +kernel
theorem dX9_hand_13 : decode cX9_hand 13 = .ok (.iload_n 2, 1) := by decide +kernel
theorem dX9_hand_14 : decode cX9_hand 14 = .ok (.iconst (-1), 1) := by decide +kernel
theorem dX9_hand_15 : decode cX9_hand 15 = .ok (.if_icmp .eq 17, 3) := by decide +kernel
theorem dX9_hand_18 : decode cX9_hand 18 = .ok (.aload_n 0, 1) := by decide +kernel
theorem dX9_hand_19 : decode cX9_hand 19 = .ok (.iload_n 2, 1) := by decide +kernel
theorem dX9_hand_20 : decode cX9_hand 20 = .ok (.invokevirtual 176, 3) := by decide +kernel
theorem dX9_hand_23 : decode cX9_hand 23 = .ok (.ifCond .ne 9, 3) := by decide +kernel
theorem dX9_hand_26 : decode cX9_hand 26 = .ok (.aload_n 0, 1) := by decide +kernel
theorem dX9_hand_27 : decode cX9_hand 27 = .ok (.iconst 1, 1) := by decide +kernel
theorem dX9_hand_28 : decode cX9_hand 28 = .ok (.invokevirtual 113, 3) := by decide +kernel
theorem dX9_hand_31 : decode cX9_hand 31 = .ok (.ireturn, 1) := by decide +kernel
theorem dX9_hand_32 : decode cX9_hand 32 = .ok (.aload_n 0, 1) := by decide +kernel
theorem dX9_hand_33 : decode cX9_hand 33 = .ok (.getfield 49, 3) := by decide +kernel
theorem dX9_hand_36 : decode cX9_hand 36 = .ok (.iload_n 1, 1) := by decide +kernel
theorem dX9_hand_37 : decode cX9_hand 37 = .ok (.iaload, 1) := by decide +kernel
theorem dX9_hand_38 : decode cX9_hand 38 = .ok (.bipush (-2), 2) := by decide +kernel
theorem dX9_hand_40 : decode cX9_hand 40 = .ok (.if_icmp .eq 24, 3) := by decide +kernel
theorem dX9_hand_43 : decode cX9_hand 43 = .ok (.aload_n 0, 1) := by decide +kernel
theorem dX9_hand_44 : decode cX9_hand 44 = .ok (.getfield 49, 3) := by decide +kernel
theorem dX9_hand_47 : decode cX9_hand 47 = .ok (.iload_n 1, 1) := by decide +kernel
theorem dX9_hand_48 : decode cX9_hand 48 = .ok (.iaload, 1) := by decide +kernel
theorem dX9_hand_49 : decode cX9_hand 49 = .ok (.iload_n 2, 1) := by decide +kernel
theorem dX9_hand_50 : decode cX9_hand 50 = .ok (.if_icmp .eq 14, 3) := by decide +kernel
theorem dX9_hand_53 : decode cX9_hand 53 = .ok (.aload_n 0, 1) := by decide +kernel
theorem dX9_hand_54 : decode cX9_hand 54 = .ok (.getfield 55, 3) := by decide +kernel
theorem dX9_hand_57 : decode cX9_hand 57 = .ok (.iload_n 1, 1) := by decide +kernel
theorem dX9_hand_58 : decode cX9_hand 58 = .ok (.iaload, 1) := by decide +kernel
theorem dX9_hand_59 : decode cX9_hand 59 = .ok (.bipush 12, 2) := by decide +kernel
theorem dX9_hand_61 : decode cX9_hand 61 = .ok (.if_icmp .ne 9, 3) := by decide +kernel
theorem dX9_hand_64 : decode cX9_hand 64 = .ok (.aload_n 0, 1) := by decide +kernel
theorem dX9_hand_65 : decode cX9_hand 65 = .ok (.iconst 2, 1) := by decide +kernel
theorem dX9_hand_66 : decode cX9_hand 66 = .ok (.invokevirtual 113, 3) := by decide +kernel
theorem dX9_hand_69 : decode cX9_hand 69 = .ok (.ireturn, 1) := by decide +kernel
theorem dX9_hand_70 : decode cX9_hand 70 = .ok (.iload_n 2, 1) := by decide +kernel
theorem dX9_hand_71 : decode cX9_hand 71 = .ok (.iconst (-1), 1) := by decide +kernel
theorem dX9_hand_72 : decode cX9_hand 72 = .ok (.if_icmp .eq 26, 3) := by decide +kernel
theorem dX9_hand_75 : decode cX9_hand 75 = .ok (.aload_n 0, 1) := by decide +kernel
theorem dX9_hand_76 : decode cX9_hand 76 = .ok (.getfield 75, 3) := by decide +kernel
theorem dX9_hand_79 : decode cX9_hand 79 = .ok (.iload_n 2, 1) := by decide +kernel
theorem dX9_hand_80 : decode cX9_hand 80 = .ok (.aload_n 0, 1) := by decide +kernel
theorem dX9_hand_81 : decode cX9_hand 81 = .ok (.getfield 46, 3) := by decide +kernel
theorem dX9_hand_84 : decode cX9_hand 84 = .ok (.iload_n 1, 1) := by decide +kernel
theorem dX9_hand_85 : decode cX9_hand 85 = .ok (.iaload, 1) := by decide +kernel
theorem dX9_hand_86 : decode cX9_hand 86 = .ok (.invokevirtual 179, 3) := by decide +kernel
theorem dX9_hand_89 : decode cX9_hand 89 = .ok (.ifCond .ne 9, 3) := by decide +kernel
theorem dX9_hand_92 : decode cX9_hand 92 = .ok (.aload_n 0, 1) := by decide +kernel
theorem dX9_hand_93 : decode cX9_hand 93 = .ok (.iconst 2, 1) := by decide +kernel
theorem dX9_hand_94 : decode cX9_hand 94 = .ok (.invokevirtual 113, 3) := by decide +kernel
theorem dX9_hand_97 : decode cX9_hand 97 = .ok (.ireturn, 1) := by decide +kernel
theorem dX9_hand_98 : decode cX9_hand 98 = .ok (.aload_n 0, 1) := by decide +kernel
theorem dX9_hand_99 : decode cX9_hand 99 = .ok (.iload_n 1, 1) := by decide +kernel
theorem dX9_hand_100 : decode cX9_hand 100 = .ok (.aload_n 0, 1) := by decide +kernel
theorem dX9_hand_101 : decode cX9_hand 101 = .ok (.getfield 49, 3) := by decide +kernel
theorem dX9_hand_104 : decode cX9_hand 104 = .ok (.iload_n 1, 1) := by decide +kernel
theorem dX9_hand_105 : decode cX9_hand 105 = .ok (.iaload, 1) := by decide +kernel
theorem dX9_hand_106 : decode cX9_hand 106 = .ok (.iload_n 2, 1) := by decide +kernel
theorem dX9_hand_107 : decode cX9_hand 107 = .ok (.iconst 0, 1) := by decide +kernel
theorem dX9_hand_108 : decode cX9_hand 108 = .ok (.invokevirtual 231, 3) := by decide +kernel
theorem dX9_hand_111 : decode cX9_hand 111 = .ok (.ireturn, 1) := by decide +kernel
theorem dX9_unseal_0 : decode cX9_unseal 0 = .ok (.aload_n 0, 1) := by decide +kernel
theorem dX9_unseal_1 : decode cX9_unseal 1 = .ok (.iconst 0, 1) := by decide +kernel
theorem dX9_unseal_2 : decode cX9_unseal 2 = .ok (.putfield 91, 3) := by decide +kernel
theorem dX9_unseal_5 : decode cX9_unseal 5 = .ok (.aload_n 0, 1) := by decide +kernel
theorem dX9_unseal_6 : decode cX9_unseal 6 = .ok (.iload_n 1, 1) := by decide +kernel
theorem dX9_unseal_7 : decode cX9_unseal 7 = .ok (.invokevirtual 228, 3) := by decide +kernel
theorem dX9_unseal_10 : decode cX9_unseal 10 = .ok (.ifCond .ne 9, 3) := by decide +kernel
theorem dX9_unseal_13 : decode cX9_unseal 13 = .ok (.aload_n 0, 1) := by decide +kernel
theorem dX9_unseal_14 : decode cX9_unseal 14 = .ok (.iconst 1, 1) := by decide +kernel
theorem dX9_unseal_15 : decode cX9_unseal 15 = .ok (.invokevirtual 113, 3) := by decide +kernel
theorem dX9_unseal_18 : decode cX9_unseal 18 = .ok (.ireturn, 1) := by decide +kernel
theorem dX9_unseal_19 : decode cX9_unseal 19 = .ok (.aload_n 0, 1) := by decide +kernel
theorem dX9_unseal_20 : decode cX9_unseal 20 = .ok (.getfield 49, 3) := by decide +kernel
theorem dX9_unseal_23 : decode cX9_unseal 23 = .ok (.iload_n 1, 1) := by decide +kernel
theorem dX9_unseal_24 : decode cX9_unseal 24 = .ok (.iaload, 1) := by decide +kernel
theorem dX9_unseal_25 : decode cX9_unseal 25 = .ok (.ifCond .lt 14, 3) := by decide +kernel
theorem dX9_unseal_28 : decode cX9_unseal 28 = .ok (.aload_n 0, 1) := by decide +kernel
theorem dX9_unseal_29 : decode cX9_unseal 29 = .ok (.getfield 55, 3) := by decide +kernel
theorem dX9_unseal_32 : decode cX9_unseal 32 = .ok (.iload_n 1, 1) := by decide +kernel
theorem dX9_unseal_33 : decode cX9_unseal 33 = .ok (.iaload, 1) := by decide +kernel
theorem dX9_unseal_34 : decode cX9_unseal 34 = .ok (.bipush 12, 2) := by decide +kernel
theorem dX9_unseal_36 : decode cX9_unseal 36 = .ok (.if_icmp .ne 9, 3) := by decide +kernel
theorem dX9_unseal_39 : decode cX9_unseal 39 = .ok (.aload_n 0, 1) := by decide +kernel
theorem dX9_unseal_40 : decode cX9_unseal 40 = .ok (.iconst 2, 1) := by decide +kernel
theorem dX9_unseal_41 : decode cX9_unseal 41 = .ok (.invokevirtual 113, 3) := by decide +kernel
theorem dX9_unseal_44 : decode cX9_unseal 44 = .ok (.ireturn, 1) := by decide +kernel
theorem dX9_unseal_45 : decode cX9_unseal 45 = .ok (.aload_n 0, 1) := by decide +kernel
theorem dX9_unseal_46 : decode cX9_unseal 46 = .ok (.iload_n 1, 1) := by decide +kernel
theorem dX9_unseal_47 : decode cX9_unseal 47 = .ok (.aload_n 0, 1) := by decide +kernel
theorem dX9_unseal_48 : decode cX9_unseal 48 = .ok (.getfield 49, 3) := by decide +kernel
theorem dX9_unseal_51 : decode cX9_unseal 51 = .ok (.iload_n 1, 1) := by decide +kernel
theorem dX9_unseal_52 : decode cX9_unseal 52 = .ok (.iaload, 1) := by decide +kernel
theorem dX9_unseal_53 : decode cX9_unseal 53 = .ok (.aload_n 0, 1) := by decide +kernel
theorem dX9_unseal_54 : decode cX9_unseal 54 = .ok (.getfield 49, 3) := by decide +kernel
theorem dX9_unseal_57 : decode cX9_unseal 57 = .ok (.iload_n 1, 1) := by decide +kernel
theorem dX9_unseal_58 : decode cX9_unseal 58 = .ok (.iaload, 1) := by decide +kernel
theorem dX9_unseal_59 : decode cX9_unseal 59 = .ok (.iconst 2, 1) := by decide +kernel
theorem dX9_unseal_60 : decode cX9_unseal 60 = .ok (.invokevirtual 231, 3) := by decide +kernel
theorem dX9_unseal_63 : decode cX9_unseal 63 = .ok (.pop, 1) := by decide +kernel
theorem dX9_unseal_64 : decode cX9_unseal 64 = .ok (.aload_n 0, 1) := by decide +kernel
theorem dX9_unseal_65 : decode cX9_unseal 65 = .ok (.getfield 52, 3) := by decide +kernel
theorem dX9_unseal_68 : decode cX9_unseal 68 = .ok (.iload_n 1, 1) := by decide +kernel
theorem dX9_unseal_69 : decode cX9_unseal 69 = .ok (.aload_n 0, 1) := by decide +kernel
theorem dX9_unseal_70 : decode cX9_unseal 70 = .ok (.getfield 52, 3) := by decide +kernel
theorem dX9_unseal_73 : decode cX9_unseal 73 = .ok (.iload_n 1, 1) := by decide +kernel
theorem dX9_unseal_74 : decode cX9_unseal 74 = .ok (.iaload, 1) := by decide +kernel
theorem dX9_unseal_75 : decode cX9_unseal 75 = .ok (.bipush 31, 2) := by decide +kernel
theorem dX9_unseal_77 : decode cX9_unseal 77 = .ok (.imul, 1) := by decide +kernel
theorem dX9_unseal_78 : decode cX9_unseal 78 = .ok (.aload_n 0, 1) := by decide +kernel
theorem dX9_unseal_79 : decode cX9_unseal 79 = .ok (.getfield 75, 3) := by decide +kernel
theorem dX9_unseal_82 : decode cX9_unseal 82 = .ok (.getfield 219, 3) := by decide +kernel
theorem dX9_unseal_85 : decode cX9_unseal 85 = .ok (.iadd, 1) := by decide +kernel
theorem dX9_unseal_86 : decode cX9_unseal 86 = .ok (.sipush 10007, 3) := by decide +kernel
theorem dX9_unseal_89 : decode cX9_unseal 89 = .ok (.irem, 1) := by decide +kernel
theorem dX9_unseal_90 : decode cX9_unseal 90 = .ok (.iastore, 1) := by decide +kernel
theorem dX9_unseal_91 : decode cX9_unseal 91 = .ok (.aload_n 0, 1) := by decide +kernel
theorem dX9_unseal_92 : decode cX9_unseal 92 = .ok (.getfield 52, 3) := by decide +kernel
theorem dX9_unseal_95 : decode cX9_unseal 95 = .ok (.iload_n 1, 1) := by decide +kernel
theorem dX9_unseal_96 : decode cX9_unseal 96 = .ok (.iaload, 1) := by decide +kernel
theorem dX9_unseal_97 : decode cX9_unseal 97 = .ok (.ireturn, 1) := by decide +kernel
theorem dX9_lose_0 : decode cX9_lose 0 = .ok (.aload_n 0, 1) := by decide +kernel
theorem dX9_lose_1 : decode cX9_lose 1 = .ok (.iconst 0, 1) := by decide +kernel
theorem dX9_lose_2 : decode cX9_lose 2 = .ok (.putfield 91, 3) := by decide +kernel
theorem dX9_lose_5 : decode cX9_lose 5 = .ok (.aload_n 0, 1) := by decide +kernel
theorem dX9_lose_6 : decode cX9_lose 6 = .ok (.iload_n 1, 1) := by decide +kernel
theorem dX9_lose_7 : decode cX9_lose 7 = .ok (.invokevirtual 228, 3) := by decide +kernel
theorem dX9_lose_10 : decode cX9_lose 10 = .ok (.ifCond .ne 9, 3) := by decide +kernel
theorem dX9_lose_13 : decode cX9_lose 13 = .ok (.aload_n 0, 1) := by decide +kernel
theorem dX9_lose_14 : decode cX9_lose 14 = .ok (.iconst 1, 1) := by decide +kernel
theorem dX9_lose_15 : decode cX9_lose 15 = .ok (.invokevirtual 113, 3) := by decide +kernel
theorem dX9_lose_18 : decode cX9_lose 18 = .ok (.ireturn, 1) := by decide +kernel
theorem dX9_lose_19 : decode cX9_lose 19 = .ok (.aload_n 0, 1) := by decide +kernel
theorem dX9_lose_20 : decode cX9_lose 20 = .ok (.getfield 49, 3) := by decide +kernel
theorem dX9_lose_23 : decode cX9_lose 23 = .ok (.iload_n 1, 1) := by decide +kernel
theorem dX9_lose_24 : decode cX9_lose 24 = .ok (.iaload, 1) := by decide +kernel
theorem dX9_lose_25 : decode cX9_lose 25 = .ok (.istore_n 2, 1) := by decide +kernel
theorem dX9_lose_26 : decode cX9_lose 26 = .ok (.iload_n 2, 1) := by decide +kernel
theorem dX9_lose_27 : decode cX9_lose 27 = .ok (.bipush (-2), 2) := by decide +kernel
theorem dX9_lose_29 : decode cX9_lose 29 = .ok (.if_icmp .ne 9, 3) := by decide +kernel
theorem dX9_lose_32 : decode cX9_lose 32 = .ok (.aload_n 0, 1) := by decide +kernel
theorem dX9_lose_33 : decode cX9_lose 33 = .ok (.iconst 2, 1) := by decide +kernel
theorem dX9_lose_34 : decode cX9_lose 34 = .ok (.invokevirtual 113, 3) := by decide +kernel
theorem dX9_lose_37 : decode cX9_lose 37 = .ok (.ireturn, 1) := by decide +kernel
theorem dX9_lose_38 : decode cX9_lose 38 = .ok (.aload_n 0, 1) := by decide +kernel
theorem dX9_lose_39 : decode cX9_lose 39 = .ok (.getfield 49, 3) := by decide +kernel
theorem dX9_lose_42 : decode cX9_lose 42 = .ok (.iload_n 1, 1) := by decide +kernel
theorem dX9_lose_43 : decode cX9_lose 43 = .ok (.bipush (-2), 2) := by decide +kernel
theorem dX9_lose_45 : decode cX9_lose 45 = .ok (.iastore, 1) := by decide +kernel
theorem dX9_lose_46 : decode cX9_lose 46 = .ok (.iload_n 2, 1) := by decide +kernel
theorem dX9_lose_47 : decode cX9_lose 47 = .ok (.ireturn, 1) := by decide +kernel
theorem dX9_found_0 : decode cX9_found 0 = .ok (.aload_n 0, 1) := by decide +kernel
theorem dX9_found_1 : decode cX9_found 1 = .ok (.iconst 0, 1) := by decide +kernel
theorem dX9_found_2 : decode cX9_found 2 = .ok (.putfield 91, 3) := by decide +kernel
theorem dX9_found_5 : decode cX9_found 5 = .ok (.aload_n 0, 1) := by decide +kernel
theorem dX9_found_6 : decode cX9_found 6 = .ok (.iload_n 1, 1) := by decide +kernel
theorem dX9_found_7 : decode cX9_found 7 = .ok (.invokevirtual 228, 3) := by decide +kernel
theorem dX9_found_10 : decode cX9_found 10 = .ok (.ifCond .eq 16, 3) := by decide +kernel
theorem dX9_found_13 : decode cX9_found 13 = .ok (.iload_n 2, 1) := by decide +kernel
theorem dX9_found_14 : decode cX9_found 14 = .ok (.iconst (-1), 1) := by decide +kernel
theorem dX9_found_15 : decode cX9_found 15 = .ok (.if_icmp .eq 17, 3) := by decide +kernel
theorem dX9_found_18 : decode cX9_found 18 = .ok (.aload_n 0, 1) := by decide +kernel
theorem dX9_found_19 : decode cX9_found 19 = .ok (.iload_n 2, 1) := by decide +kernel
theorem dX9_found_20 : decode cX9_found 20 = .ok (.invokevirtual 176, 3) := by decide +kernel
theorem dX9_found_23 : decode cX9_found 23 = .ok (.ifCond .ne 9, 3) := by decide +kernel
theorem dX9_found_26 : decode cX9_found 26 = .ok (.aload_n 0, 1) := by decide +kernel
theorem dX9_found_27 : decode cX9_found 27 = .ok (.iconst 1, 1) := by decide +kernel
theorem dX9_found_28 : decode cX9_found 28 = .ok (.invokevirtual 113, 3) := by decide +kernel
theorem dX9_found_31 : decode cX9_found 31 = .ok (.ireturn, 1) := by decide +kernel
theorem dX9_found_32 : decode cX9_found 32 = .ok (.aload_n 0, 1) := by decide +kernel
theorem dX9_found_33 : decode cX9_found 33 = .ok (.getfield 49, 3) := by decide +kernel
theorem dX9_found_36 : decode cX9_found 36 = .ok (.iload_n 1, 1) := by decide +kernel
theorem dX9_found_37 : decode cX9_found 37 = .ok (.iaload, 1) := by decide +kernel
theorem dX9_found_38 : decode cX9_found 38 = .ok (.bipush (-2), 2) := by decide +kernel
theorem dX9_found_40 : decode cX9_found 40 = .ok (.if_icmp .ne 14, 3) := by decide +kernel
theorem dX9_found_43 : decode cX9_found 43 = .ok (.aload_n 0, 1) := by decide +kernel
theorem dX9_found_44 : decode cX9_found 44 = .ok (.getfield 55, 3) := by decide +kernel
theorem dX9_found_47 : decode cX9_found 47 = .ok (.iload_n 1, 1) := by decide +kernel
theorem dX9_found_48 : decode cX9_found 48 = .ok (.iaload, 1) := by decide +kernel
theorem dX9_found_49 : decode cX9_found 49 = .ok (.bipush 12, 2) := by decide +kernel
theorem dX9_found_51 : decode cX9_found 51 = .ok (.if_icmp .ne 9, 3) := by decide +kernel
theorem dX9_found_54 : decode cX9_found 54 = .ok (.aload_n 0, 1) := by decide +kernel
theorem dX9_found_55 : decode cX9_found 55 = .ok (.iconst 2, 1) := by decide +kernel
theorem dX9_found_56 : decode cX9_found 56 = .ok (.invokevirtual 113, 3) := by decide +kernel
theorem dX9_found_59 : decode cX9_found 59 = .ok (.ireturn, 1) := by decide +kernel
theorem dX9_found_60 : decode cX9_found 60 = .ok (.aload_n 0, 1) := by decide +kernel
theorem dX9_found_61 : decode cX9_found 61 = .ok (.iload_n 1, 1) := by decide +kernel
theorem dX9_found_62 : decode cX9_found 62 = .ok (.iconst (-1), 1) := by decide +kernel
theorem dX9_found_63 : decode cX9_found 63 = .ok (.iload_n 2, 1) := by decide +kernel
theorem dX9_found_64 : decode cX9_found 64 = .ok (.iconst 1, 1) := by decide +kernel
theorem dX9_found_65 : decode cX9_found 65 = .ok (.invokevirtual 231, 3) := by decide +kernel
theorem dX9_found_68 : decode cX9_found 68 = .ok (.ireturn, 1) := by decide +kernel
theorem dX9_linkTold_0 : decode cX9_linkTold 0 = .ok (.aload_n 0, 1) := by decide +kernel
theorem dX9_linkTold_1 : decode cX9_linkTold 1 = .ok (.getfield 58, 3) := by decide +kernel
theorem dX9_linkTold_4 : decode cX9_linkTold 4 = .ok (.iconst 4, 1) := by decide +kernel
theorem dX9_linkTold_5 : decode cX9_linkTold 5 = .ok (.bipush 12, 2) := by decide +kernel
theorem dX9_linkTold_7 : decode cX9_linkTold 7 = .ok (.iload_n 1, 1) := by decide +kernel
theorem dX9_linkTold_8 : decode cX9_linkTold 8 = .ok (.imul, 1) := by decide +kernel
theorem dX9_linkTold_9 : decode cX9_linkTold 9 = .ok (.iload_n 2, 1) := by decide +kernel
theorem dX9_linkTold_10 : decode cX9_linkTold 10 = .ok (.iadd, 1) := by decide +kernel
theorem dX9_linkTold_11 : decode cX9_linkTold 11 = .ok (.imul, 1) := by decide +kernel
theorem dX9_linkTold_12 : decode cX9_linkTold 12 = .ok (.iload_n 3, 1) := by decide +kernel
theorem dX9_linkTold_13 : decode cX9_linkTold 13 = .ok (.iadd, 1) := by decide +kernel
theorem dX9_linkTold_14 : decode cX9_linkTold 14 = .ok (.iaload, 1) := by decide +kernel
theorem dX9_linkTold_15 : decode cX9_linkTold 15 = .ok (.ireturn, 1) := by decide +kernel
theorem dX9_gaps_0 : decode cX9_gaps 0 = .ok (.iconst 0, 1) := by decide +kernel
theorem dX9_gaps_1 : decode cX9_gaps 1 = .ok (.istore_n 2, 1) := by decide +kernel
theorem dX9_gaps_2 : decode cX9_gaps 2 = .ok (.iconst 0, 1) := by decide +kernel
theorem dX9_gaps_3 : decode cX9_gaps 3 = .ok (.istore_n 3, 1) := by decide +kernel
theorem dX9_gaps_4 : decode cX9_gaps 4 = .ok (.iload_n 3, 1) := by decide +kernel
theorem dX9_gaps_5 : decode cX9_gaps 5 = .ok (.aload_n 0, 1) := by decide +kernel
theorem dX9_gaps_6 : decode cX9_gaps 6 = .ok (.getfield 55, 3) := by decide +kernel
theorem dX9_gaps_9 : decode cX9_gaps 9 = .ok (.iload_n 1, 1) := by decide +kernel
theorem dX9_gaps_10 : decode cX9_gaps 10 = .ok (.iaload, 1) := by decide +kernel
theorem dX9_gaps_11 : decode cX9_gaps 11 = .ok (.if_icmp .ge 28, 3) := by decide +kernel
theorem dX9_gaps_14 : decode cX9_gaps 14 = .ok (.iload_n 2, 1) := by decide +kernel
theorem dX9_gaps_15 : decode cX9_gaps 15 = .ok (.aload_n 0, 1) := by decide +kernel
theorem dX9_gaps_16 : decode cX9_gaps 16 = .ok (.iload_n 1, 1) := by decide +kernel
theorem dX9_gaps_17 : decode cX9_gaps 17 = .ok (.iload_n 3, 1) := by decide +kernel
theorem dX9_gaps_18 : decode cX9_gaps 18 = .ok (.iconst 3, 1) := by decide +kernel
theorem dX9_gaps_19 : decode cX9_gaps 19 = .ok (.invokevirtual 235, 3) := by decide +kernel
theorem dX9_gaps_22 : decode cX9_gaps 22 = .ok (.iconst 1, 1) := by decide +kernel
theorem dX9_gaps_23 : decode cX9_gaps 23 = .ok (.if_icmp .ne 7, 3) := by decide +kernel
theorem dX9_gaps_26 : decode cX9_gaps 26 = .ok (.iconst 1, 1) := by decide +kernel
theorem dX9_gaps_27 : decode cX9_gaps 27 = .ok (.goto 4, 3) := by decide +kernel
theorem dX9_gaps_30 : decode cX9_gaps 30 = .ok (.iconst 0, 1) := by decide +kernel
theorem dX9_gaps_31 : decode cX9_gaps 31 = .ok (.iadd, 1) := by decide +kernel
theorem dX9_gaps_32 : decode cX9_gaps 32 = .ok (.istore_n 2, 1) := by decide +kernel
theorem dX9_gaps_33 : decode cX9_gaps 33 = .ok (.iinc 3 1, 3) := by decide +kernel
theorem dX9_gaps_36 : decode cX9_gaps 36 = .ok (.goto (-32), 3) := by decide +kernel
theorem dX9_gaps_39 : decode cX9_gaps 39 = .ok (.iload_n 2, 1) := by decide +kernel
theorem dX9_gaps_40 : decode cX9_gaps 40 = .ok (.ireturn, 1) := by decide +kernel
theorem dX9_isGood_0 : decode cX9_isGood 0 = .ok (.aload_n 0, 1) := by decide +kernel
theorem dX9_isGood_1 : decode cX9_isGood 1 = .ok (.getfield 49, 3) := by decide +kernel
theorem dX9_isGood_4 : decode cX9_isGood 4 = .ok (.iload_n 1, 1) := by decide +kernel
theorem dX9_isGood_5 : decode cX9_isGood 5 = .ok (.iaload, 1) := by decide +kernel
theorem dX9_isGood_6 : decode cX9_isGood 6 = .ok (.istore_n 2, 1) := by decide +kernel
theorem dX9_isGood_7 : decode cX9_isGood 7 = .ok (.aload_n 0, 1) := by decide +kernel
theorem dX9_isGood_8 : decode cX9_isGood 8 = .ok (.iload_n 1, 1) := by decide +kernel
theorem dX9_isGood_9 : decode cX9_isGood 9 = .ok (.invokevirtual 238, 3) := by decide +kernel
theorem dX9_isGood_12 : decode cX9_isGood 12 = .ok (.ifCond .ne 37, 3) := by decide +kernel
theorem dX9_isGood_15 : decode cX9_isGood 15 = .ok (.iload_n 2, 1) := by decide +kernel
theorem dX9_isGood_16 : decode cX9_isGood 16 = .ok (.bipush (-2), 2) := by decide +kernel
theorem dX9_isGood_18 : decode cX9_isGood 18 = .ok (.if_icmp .eq 31, 3) := by decide +kernel
theorem dX9_isGood_21 : decode cX9_isGood 21 = .ok (.iload_n 2, 1) := by decide +kernel
theorem dX9_isGood_22 : decode cX9_isGood 22 = .ok (.iconst (-1), 1) := by decide +kernel
theorem dX9_isGood_23 : decode cX9_isGood 23 = .ok (.if_icmp .eq 22, 3) := by decide +kernel
theorem dX9_isGood_26 : decode cX9_isGood 26 = .ok (.aload_n 0, 1) := by decide +kernel
theorem dX9_isGood_27 : decode cX9_isGood 27 = .ok (.getfield 23, 3) := by decide +kernel
theorem dX9_isGood_30 : decode cX9_isGood 30 = .ok (.iload_n 2, 1) := by decide +kernel
theorem dX9_isGood_31 : decode cX9_isGood 31 = .ok (.iaload, 1) := by decide +kernel
theorem dX9_isGood_32 : decode cX9_isGood 32 = .ok (.iconst 1, 1) := by decide +kernel
theorem dX9_isGood_33 : decode cX9_isGood 33 = .ok (.if_icmp .eq 12, 3) := by decide +kernel
theorem dX9_isGood_36 : decode cX9_isGood 36 = .ok (.aload_n 0, 1) := by decide +kernel
theorem dX9_isGood_37 : decode cX9_isGood 37 = .ok (.getfield 23, 3) := by decide +kernel
theorem dX9_isGood_40 : decode cX9_isGood 40 = .ok (.iload_n 2, 1) := by decide +kernel
theorem dX9_isGood_41 : decode cX9_isGood 41 = .ok (.iaload, 1) := by decide +kernel
theorem dX9_isGood_42 : decode cX9_isGood 42 = .ok (.ifCond .ne 7, 3) := by decide +kernel
theorem dX9_isGood_45 : decode cX9_isGood 45 = .ok (.iconst 1, 1) := by decide +kernel
theorem dX9_isGood_46 : decode cX9_isGood 46 = .ok (.goto 4, 3) := by decide +kernel
theorem dX9_isGood_49 : decode cX9_isGood 49 = .ok (.iconst 0, 1) := by decide +kernel
theorem dX9_isGood_50 : decode cX9_isGood 50 = .ok (.istore_n 3, 1) := by decide +kernel
theorem dX9_isGood_51 : decode cX9_isGood 51 = .ok (.iconst 0, 1) := by decide +kernel
theorem dX9_isGood_52 : decode cX9_isGood 52 = .ok (.istore 4, 2) := by decide +kernel
theorem dX9_isGood_54 : decode cX9_isGood 54 = .ok (.iload 4, 2) := by decide +kernel
theorem dX9_isGood_56 : decode cX9_isGood 56 = .ok (.aload_n 0, 1) := by decide +kernel
theorem dX9_isGood_57 : decode cX9_isGood 57 = .ok (.getfield 55, 3) := by decide +kernel
theorem dX9_isGood_60 : decode cX9_isGood 60 = .ok (.iload_n 1, 1) := by decide +kernel
theorem dX9_isGood_61 : decode cX9_isGood 61 = .ok (.iaload, 1) := by decide +kernel
theorem dX9_isGood_62 : decode cX9_isGood 62 = .ok (.if_icmp .ge 69, 3) := by decide +kernel
theorem dX9_isGood_65 : decode cX9_isGood 65 = .ok (.iload_n 3, 1) := by decide +kernel
theorem dX9_isGood_66 : decode cX9_isGood 66 = .ok (.ifCond .eq 65, 3) := by decide +kernel
theorem dX9_isGood_69 : decode cX9_isGood 69 = .ok (.aload_n 0, 1) := by decide +kernel
theorem dX9_isGood_70 : decode cX9_isGood 70 = .ok (.iload_n 1, 1) := by decide +kernel
theorem dX9_isGood_71 : decode cX9_isGood 71 = .ok (.iload 4, 2) := by decide +kernel
theorem dX9_isGood_73 : decode cX9_isGood 73 = .ok (.iconst 2, 1) := by decide +kernel
theorem dX9_isGood_74 : decode cX9_isGood 74 = .ok (.invokevirtual 235, 3) := by decide +kernel
theorem dX9_isGood_77 : decode cX9_isGood 77 = .ok (.istore 5, 2) := by decide +kernel
theorem dX9_isGood_79 : decode cX9_isGood 79 = .ok (.iload 5, 2) := by decide +kernel
theorem dX9_isGood_81 : decode cX9_isGood 81 = .ok (.iconst (-1), 1) := by decide +kernel
theorem dX9_isGood_82 : decode cX9_isGood 82 = .ok (.if_icmp .eq 37, 3) := by decide +kernel
theorem dX9_isGood_85 : decode cX9_isGood 85 = .ok (.aload_n 0, 1) := by decide +kernel
theorem dX9_isGood_86 : decode cX9_isGood 86 = .ok (.getfield 23, 3) := by decide +kernel
theorem dX9_isGood_89 : decode cX9_isGood 89 = .ok (.iload 5, 2) := by decide +kernel
theorem dX9_isGood_91 : decode cX9_isGood 91 = .ok (.iaload, 1) := by decide +kernel
theorem dX9_isGood_92 : decode cX9_isGood 92 = .ok (.iconst 3, 1) := by decide +kernel
theorem dX9_isGood_93 : decode cX9_isGood 93 = .ok (.if_icmp .eq 30, 3) := by decide +kernel
theorem dX9_isGood_96 : decode cX9_isGood 96 = .ok (.aload_n 0, 1) := by decide +kernel
theorem dX9_isGood_97 : decode cX9_isGood 97 = .ok (.iload_n 1, 1) := by decide +kernel
theorem dX9_isGood_98 : decode cX9_isGood 98 = .ok (.iload 4, 2) := by decide +kernel
theorem dX9_isGood_100 : decode cX9_isGood 100 = .ok (.iconst 3, 1) := by decide +kernel
theorem dX9_isGood_101 : decode cX9_isGood 101 = .ok (.invokevirtual 235, 3) := by decide +kernel
theorem dX9_isGood_104 : decode cX9_isGood 104 = .ok (.iconst 2, 1) := by decide +kernel
theorem dX9_isGood_105 : decode cX9_isGood 105 = .ok (.if_icmp .ne 14, 3) := by decide +kernel
theorem dX9_isGood_108 : decode cX9_isGood 108 = .ok (.aload_n 0, 1) := by decide +kernel
theorem dX9_isGood_109 : decode cX9_isGood 109 = .ok (.getfield 23, 3) := by decide +kernel
theorem dX9_isGood_112 : decode cX9_isGood 112 = .ok (.iload 5, 2) := by decide +kernel
theorem dX9_isGood_114 : decode cX9_isGood 114 = .ok (.iaload, 1) := by decide +kernel
theorem dX9_isGood_115 : decode cX9_isGood 115 = .ok (.iconst 1, 1) := by decide +kernel
theorem dX9_isGood_116 : decode cX9_isGood 116 = .ok (.if_icmp .ne 7, 3) := by decide +kernel
theorem dX9_isGood_119 : decode cX9_isGood 119 = .ok (.iconst 1, 1) := by decide +kernel
theorem dX9_isGood_120 : decode cX9_isGood 120 = .ok (.goto 4, 3) := by decide +kernel
theorem dX9_isGood_123 : decode cX9_isGood 123 = .ok (.iconst 0, 1) := by decide +kernel
theorem dX9_isGood_124 : decode cX9_isGood 124 = .ok (.istore_n 3, 1) := by decide +kernel
theorem dX9_isGood_125 : decode cX9_isGood 125 = .ok (.iinc 4 1, 3) := by decide +kernel
theorem dX9_isGood_128 : decode cX9_isGood 128 = .ok (.goto (-74), 3) := by decide +kernel
theorem dX9_isGood_131 : decode cX9_isGood 131 = .ok (.iload_n 3, 1) := by decide +kernel
theorem dX9_isGood_132 : decode cX9_isGood 132 = .ok (.ireturn, 1) := by decide +kernel
theorem dX9_exhibitTold_0 : decode cX9_exhibitTold 0 = .ok (.iconst 0, 1) := by decide +kernel
theorem dX9_exhibitTold_1 : decode cX9_exhibitTold 1 = .ok (.istore_n 3, 1) := by decide +kernel
theorem dX9_exhibitTold_2 : decode cX9_exhibitTold 2 = .ok (.iconst 0, 1) := by decide +kernel
theorem dX9_exhibitTold_3 : decode cX9_exhibitTold 3 = .ok (.istore 4, 2) := by decide +kernel
theorem dX9_exhibitTold_5 : decode cX9_exhibitTold 5 = .ok (.iload 4, 2) := by decide +kernel
theorem dX9_exhibitTold_7 : decode cX9_exhibitTold 7 = .ok (.aload_n 0, 1) := by decide +kernel
theorem dX9_exhibitTold_8 : decode cX9_exhibitTold 8 = .ok (.getfield 104, 3) := by decide +kernel
theorem dX9_exhibitTold_11 : decode cX9_exhibitTold 11 = .ok (.if_icmp .ge 23, 3) := by decide +kernel
theorem dX9_exhibitTold_14 : decode cX9_exhibitTold 14 = .ok (.iload_n 3, 1) := by decide +kernel
theorem dX9_exhibitTold_15 : decode cX9_exhibitTold 15 = .ok (.aload_n 0, 1) := by decide +kernel
theorem dX9_exhibitTold_16 : decode cX9_exhibitTold 16 = .ok (.getfield 43, 3) := by decide +kernel
theorem dX9_exhibitTold_19 : decode cX9_exhibitTold 19 = .ok (.iload 4, 2) := by decide +kernel
theorem dX9_exhibitTold_21 : decode cX9_exhibitTold 21 = .ok (.iaload, 1) := by decide +kernel
theorem dX9_exhibitTold_22 : decode cX9_exhibitTold 22 = .ok (.iload_n 1, 1) := by decide +kernel
theorem dX9_exhibitTold_23 : decode cX9_exhibitTold 23 = .ok (.ishr, 1) := by decide +kernel
theorem dX9_exhibitTold_24 : decode cX9_exhibitTold 24 = .ok (.iconst 1, 1) := by decide +kernel
theorem dX9_exhibitTold_25 : decode cX9_exhibitTold 25 = .ok (.iand, 1) := by decide +kernel
theorem dX9_exhibitTold_26 : decode cX9_exhibitTold 26 = .ok (.iadd, 1) := by decide +kernel
theorem dX9_exhibitTold_27 : decode cX9_exhibitTold 27 = .ok (.istore_n 3, 1) := by decide +kernel
theorem dX9_exhibitTold_28 : decode cX9_exhibitTold 28 = .ok (.iinc 4 1, 3) := by decide +kernel
theorem dX9_exhibitTold_31 : decode cX9_exhibitTold 31 = .ok (.goto (-26), 3) := by decide +kernel
theorem dX9_exhibitTold_34 : decode cX9_exhibitTold 34 = .ok (.bipush 7, 2) := by decide +kernel
theorem dX9_exhibitTold_36 : decode cX9_exhibitTold 36 = .ok (.newarray .int, 2) := by decide +kernel
theorem dX9_exhibitTold_38 : decode cX9_exhibitTold 38 = .ok (.dup, 1) := by decide +kernel
theorem dX9_exhibitTold_39 : decode cX9_exhibitTold 39 = .ok (.iconst 0, 1) := by decide +kernel
theorem dX9_exhibitTold_40 : decode cX9_exhibitTold 40 = .ok (.aload_n 0, 1) := by decide +kernel
theorem dX9_exhibitTold_41 : decode cX9_exhibitTold 41 = .ok (.getfield 46, 3) := by decide +kernel
theorem dX9_exhibitTold_44 : decode cX9_exhibitTold 44 = .ok (.iload_n 1, 1) := by decide +kernel
theorem dX9_exhibitTold_45 : decode cX9_exhibitTold 45 = .ok (.iaload, 1) := by decide +kernel
theorem dX9_exhibitTold_46 : decode cX9_exhibitTold 46 = .ok (.iastore, 1) := by decide +kernel
theorem dX9_exhibitTold_47 : decode cX9_exhibitTold 47 = .ok (.dup, 1) := by decide +kernel
theorem dX9_exhibitTold_48 : decode cX9_exhibitTold 48 = .ok (.iconst 1, 1) := by decide +kernel
theorem dX9_exhibitTold_49 : decode cX9_exhibitTold 49 = .ok (.aload_n 0, 1) := by decide +kernel
theorem dX9_exhibitTold_50 : decode cX9_exhibitTold 50 = .ok (.getfield 49, 3) := by decide +kernel
theorem dX9_exhibitTold_53 : decode cX9_exhibitTold 53 = .ok (.iload_n 1, 1) := by decide +kernel
theorem dX9_exhibitTold_54 : decode cX9_exhibitTold 54 = .ok (.iaload, 1) := by decide +kernel
theorem dX9_exhibitTold_55 : decode cX9_exhibitTold 55 = .ok (.iastore, 1) := by decide +kernel
theorem dX9_exhibitTold_56 : decode cX9_exhibitTold 56 = .ok (.dup, 1) := by decide +kernel
theorem dX9_exhibitTold_57 : decode cX9_exhibitTold 57 = .ok (.iconst 2, 1) := by decide +kernel
theorem dX9_exhibitTold_58 : decode cX9_exhibitTold 58 = .ok (.aload_n 0, 1) := by decide +kernel
theorem dX9_exhibitTold_59 : decode cX9_exhibitTold 59 = .ok (.getfield 52, 3) := by decide +kernel
theorem dX9_exhibitTold_62 : decode cX9_exhibitTold 62 = .ok (.iload_n 1, 1) := by decide +kernel
theorem dX9_exhibitTold_63 : decode cX9_exhibitTold 63 = .ok (.iaload, 1) := by decide +kernel
theorem dX9_exhibitTold_64 : decode cX9_exhibitTold 64 = .ok (.iastore, 1) := by decide +kernel
theorem dX9_exhibitTold_65 : decode cX9_exhibitTold 65 = .ok (.dup, 1) := by decide +kernel
theorem dX9_exhibitTold_66 : decode cX9_exhibitTold 66 = .ok (.iconst 3, 1) := by decide +kernel
theorem dX9_exhibitTold_67 : decode cX9_exhibitTold 67 = .ok (.aload_n 0, 1) := by decide +kernel
theorem dX9_exhibitTold_68 : decode cX9_exhibitTold 68 = .ok (.getfield 55, 3) := by decide +kernel
theorem dX9_exhibitTold_71 : decode cX9_exhibitTold 71 = .ok (.iload_n 1, 1) := by decide +kernel
theorem dX9_exhibitTold_72 : decode cX9_exhibitTold 72 = .ok (.iaload, 1) := by decide +kernel
theorem dX9_exhibitTold_73 : decode cX9_exhibitTold 73 = .ok (.iastore, 1) := by decide +kernel
theorem dX9_exhibitTold_74 : decode cX9_exhibitTold 74 = .ok (.dup, 1) := by decide +kernel
theorem dX9_exhibitTold_75 : decode cX9_exhibitTold 75 = .ok (.iconst 4, 1) := by decide +kernel
theorem dX9_exhibitTold_76 : decode cX9_exhibitTold 76 = .ok (.aload_n 0, 1) := by decide +kernel
theorem dX9_exhibitTold_77 : decode cX9_exhibitTold 77 = .ok (.iload_n 1, 1) := by decide +kernel
theorem dX9_exhibitTold_78 : decode cX9_exhibitTold 78 = .ok (.invokevirtual 238, 3) := by decide +kernel
theorem dX9_exhibitTold_81 : decode cX9_exhibitTold 81 = .ok (.iastore, 1) := by decide +kernel
theorem dX9_exhibitTold_82 : decode cX9_exhibitTold 82 = .ok (.dup, 1) := by decide +kernel
theorem dX9_exhibitTold_83 : decode cX9_exhibitTold 83 = .ok (.iconst 5, 1) := by decide +kernel
theorem dX9_exhibitTold_84 : decode cX9_exhibitTold 84 = .ok (.aload_n 0, 1) := by decide +kernel
theorem dX9_exhibitTold_85 : decode cX9_exhibitTold 85 = .ok (.iload_n 1, 1) := by decide +kernel
theorem dX9_exhibitTold_86 : decode cX9_exhibitTold 86 = .ok (.invokevirtual 194, 3) := by decide +kernel
theorem dX9_exhibitTold_89 : decode cX9_exhibitTold 89 = .ok (.ifCond .eq 7, 3) := by decide +kernel
theorem dX9_exhibitTold_92 : decode cX9_exhibitTold 92 = .ok (.iconst 1, 1) := by decide +kernel
theorem dX9_exhibitTold_93 : decode cX9_exhibitTold 93 = .ok (.goto 4, 3) := by decide +kernel
theorem dX9_exhibitTold_96 : decode cX9_exhibitTold 96 = .ok (.iconst 0, 1) := by decide +kernel
theorem dX9_exhibitTold_97 : decode cX9_exhibitTold 97 = .ok (.iastore, 1) := by decide +kernel
theorem dX9_exhibitTold_98 : decode cX9_exhibitTold 98 = .ok (.dup, 1) := by decide +kernel
theorem dX9_exhibitTold_99 : decode cX9_exhibitTold 99 = .ok (.bipush 6, 2) := by decide +kernel
theorem dX9_exhibitTold_101 : decode cX9_exhibitTold 101 = .ok (.iload_n 3, 1) := by decide +kernel
theorem dX9_exhibitTold_102 : decode cX9_exhibitTold 102 = .ok (.iastore, 1) := by decide +kernel
theorem dX9_exhibitTold_103 : decode cX9_exhibitTold 103 = .ok (.astore 4, 2) := by decide +kernel
theorem dX9_exhibitTold_105 : decode cX9_exhibitTold 105 = .ok (.aload 4, 2) := by decide +kernel
theorem dX9_exhibitTold_107 : decode cX9_exhibitTold 107 = .ok (.iload_n 2, 1) := by decide +kernel
theorem dX9_exhibitTold_108 : decode cX9_exhibitTold 108 = .ok (.iaload, 1) := by decide +kernel
theorem dX9_exhibitTold_109 : decode cX9_exhibitTold 109 = .ok (.ireturn, 1) := by decide +kernel
theorem dX9_exhibit_0 : decode cX9_exhibit 0 = .ok (.aload_n 0, 1) := by decide +kernel
theorem dX9_exhibit_1 : decode cX9_exhibit 1 = .ok (.iconst 0, 1) := by decide +kernel
theorem dX9_exhibit_2 : decode cX9_exhibit 2 = .ok (.putfield 91, 3) := by decide +kernel
theorem dX9_exhibit_5 : decode cX9_exhibit 5 = .ok (.aload_n 0, 1) := by decide +kernel
theorem dX9_exhibit_6 : decode cX9_exhibit 6 = .ok (.iload_n 1, 1) := by decide +kernel
theorem dX9_exhibit_7 : decode cX9_exhibit 7 = .ok (.invokevirtual 228, 3) := by decide +kernel
theorem dX9_exhibit_10 : decode cX9_exhibit 10 = .ok (.ifCond .eq 22, 3) := by decide +kernel
theorem dX9_exhibit_13 : decode cX9_exhibit 13 = .ok (.iload_n 2, 1) := by decide +kernel
theorem dX9_exhibit_14 : decode cX9_exhibit 14 = .ok (.iconst 0, 1) := by decide +kernel
theorem dX9_exhibit_15 : decode cX9_exhibit 15 = .ok (.bipush 6, 2) := by decide +kernel
theorem dX9_exhibit_17 : decode cX9_exhibit 17 = .ok (.invokestatic 97, 3) := by decide +kernel
theorem dX9_exhibit_20 : decode cX9_exhibit 20 = .ok (.ifCond .eq 12, 3) := by decide +kernel
theorem dX9_exhibit_23 : decode cX9_exhibit 23 = .ok (.aload_n 0, 1) := by decide +kernel
theorem dX9_exhibit_24 : decode cX9_exhibit 24 = .ok (.iload_n 1, 1) := by decide +kernel
theorem dX9_exhibit_25 : decode cX9_exhibit 25 = .ok (.iload_n 2, 1) := by decide +kernel
theorem dX9_exhibit_26 : decode cX9_exhibit 26 = .ok (.invokevirtual 241, 3) := by decide +kernel
theorem dX9_exhibit_29 : decode cX9_exhibit 29 = .ok (.goto 8, 3) := by decide +kernel
theorem dX9_exhibit_32 : decode cX9_exhibit 32 = .ok (.aload_n 0, 1) := by decide +kernel
theorem dX9_exhibit_33 : decode cX9_exhibit 33 = .ok (.iconst 1, 1) := by decide +kernel
theorem dX9_exhibit_34 : decode cX9_exhibit 34 = .ok (.invokevirtual 113, 3) := by decide +kernel
theorem dX9_exhibit_37 : decode cX9_exhibit 37 = .ok (.ireturn, 1) := by decide +kernel
theorem dX9_link_0 : decode cX9_link 0 = .ok (.aload_n 0, 1) := by decide +kernel
theorem dX9_link_1 : decode cX9_link 1 = .ok (.iconst 0, 1) := by decide +kernel
theorem dX9_link_2 : decode cX9_link 2 = .ok (.putfield 91, 3) := by decide +kernel
theorem dX9_link_5 : decode cX9_link 5 = .ok (.aload_n 0, 1) := by decide +kernel
theorem dX9_link_6 : decode cX9_link 6 = .ok (.iload_n 1, 1) := by decide +kernel
theorem dX9_link_7 : decode cX9_link 7 = .ok (.invokevirtual 228, 3) := by decide +kernel
theorem dX9_link_10 : decode cX9_link 10 = .ok (.ifCond .eq 38, 3) := by decide +kernel
theorem dX9_link_13 : decode cX9_link 13 = .ok (.iload_n 2, 1) := by decide +kernel
theorem dX9_link_14 : decode cX9_link 14 = .ok (.iconst 0, 1) := by decide +kernel
theorem dX9_link_15 : decode cX9_link 15 = .ok (.aload_n 0, 1) := by decide +kernel
theorem dX9_link_16 : decode cX9_link 16 = .ok (.getfield 55, 3) := by decide +kernel
theorem dX9_link_19 : decode cX9_link 19 = .ok (.iload_n 1, 1) := by decide +kernel
theorem dX9_link_20 : decode cX9_link 20 = .ok (.iaload, 1) := by decide +kernel
theorem dX9_link_21 : decode cX9_link 21 = .ok (.iconst 1, 1) := by decide +kernel
theorem dX9_link_22 : decode cX9_link 22 = .ok (.isub, 1) := by decide +kernel
theorem dX9_link_23 : decode cX9_link 23 = .ok (.invokestatic 97, 3) := by decide +kernel
theorem dX9_link_26 : decode cX9_link 26 = .ok (.ifCond .eq 22, 3) := by decide +kernel
theorem dX9_link_29 : decode cX9_link 29 = .ok (.iload_n 3, 1) := by decide +kernel
theorem dX9_link_30 : decode cX9_link 30 = .ok (.iconst 0, 1) := by decide +kernel
theorem dX9_link_31 : decode cX9_link 31 = .ok (.iconst 3, 1) := by decide +kernel
theorem dX9_link_32 : decode cX9_link 32 = .ok (.invokestatic 97, 3) := by decide +kernel
theorem dX9_link_35 : decode cX9_link 35 = .ok (.ifCond .eq 13, 3) := by decide +kernel
theorem dX9_link_38 : decode cX9_link 38 = .ok (.aload_n 0, 1) := by decide +kernel
theorem dX9_link_39 : decode cX9_link 39 = .ok (.iload_n 1, 1) := by decide +kernel
theorem dX9_link_40 : decode cX9_link 40 = .ok (.iload_n 2, 1) := by decide +kernel
theorem dX9_link_41 : decode cX9_link 41 = .ok (.iload_n 3, 1) := by decide +kernel
theorem dX9_link_42 : decode cX9_link 42 = .ok (.invokevirtual 235, 3) := by decide +kernel
theorem dX9_link_45 : decode cX9_link 45 = .ok (.goto 8, 3) := by decide +kernel
theorem dX9_link_48 : decode cX9_link 48 = .ok (.aload_n 0, 1) := by decide +kernel
theorem dX9_link_49 : decode cX9_link 49 = .ok (.iconst 1, 1) := by decide +kernel
theorem dX9_link_50 : decode cX9_link 50 = .ok (.invokevirtual 113, 3) := by decide +kernel
theorem dX9_link_53 : decode cX9_link 53 = .ok (.ireturn, 1) := by decide +kernel
theorem dX9_send_0 : decode cX9_send 0 = .ok (.aload_n 0, 1) := by decide +kernel
theorem dX9_send_1 : decode cX9_send 1 = .ok (.iconst 0, 1) := by decide +kernel
theorem dX9_send_2 : decode cX9_send 2 = .ok (.putfield 91, 3) := by decide +kernel
theorem dX9_send_5 : decode cX9_send 5 = .ok (.aload_n 0, 1) := by decide +kernel
theorem dX9_send_6 : decode cX9_send 6 = .ok (.iload_n 2, 1) := by decide +kernel
theorem dX9_send_7 : decode cX9_send 7 = .ok (.iload_n 1, 1) := by decide +kernel
theorem dX9_send_8 : decode cX9_send 8 = .ok (.invokevirtual 207, 3) := by decide +kernel
theorem dX9_send_11 : decode cX9_send 11 = .ok (.ifCond .ne 9, 3) := by decide +kernel
theorem dX9_send_14 : decode cX9_send 14 = .ok (.aload_n 0, 1) := by decide +kernel
theorem dX9_send_15 : decode cX9_send 15 = .ok (.iconst 1, 1) := by decide +kernel
theorem dX9_send_16 : decode cX9_send 16 = .ok (.invokevirtual 113, 3) := by decide +kernel
theorem dX9_send_19 : decode cX9_send 19 = .ok (.ireturn, 1) := by decide +kernel
theorem dX9_send_20 : decode cX9_send 20 = .ok (.iload_n 3, 1) := by decide +kernel
theorem dX9_send_21 : decode cX9_send 21 = .ok (.iconst 0, 1) := by decide +kernel
theorem dX9_send_22 : decode cX9_send 22 = .ok (.bipush 30, 2) := by decide +kernel
theorem dX9_send_24 : decode cX9_send 24 = .ok (.invokestatic 97, 3) := by decide +kernel
theorem dX9_send_27 : decode cX9_send 27 = .ok (.ifCond .ne 9, 3) := by decide +kernel
theorem dX9_send_30 : decode cX9_send 30 = .ok (.aload_n 0, 1) := by decide +kernel
theorem dX9_send_31 : decode cX9_send 31 = .ok (.iconst 2, 1) := by decide +kernel
theorem dX9_send_32 : decode cX9_send 32 = .ok (.invokevirtual 113, 3) := by decide +kernel
theorem dX9_send_35 : decode cX9_send 35 = .ok (.ireturn, 1) := by decide +kernel
theorem dX9_send_36 : decode cX9_send 36 = .ok (.aload_n 0, 1) := by decide +kernel
theorem dX9_send_37 : decode cX9_send 37 = .ok (.getfield 182, 3) := by decide +kernel
theorem dX9_send_40 : decode cX9_send 40 = .ok (.bipush 40, 2) := by decide +kernel
theorem dX9_send_42 : decode cX9_send 42 = .ok (.if_icmp .ne 9, 3) := by decide +kernel
theorem dX9_send_45 : decode cX9_send 45 = .ok (.aload_n 0, 1) := by decide +kernel
theorem dX9_send_46 : decode cX9_send 46 = .ok (.iconst 3, 1) := by decide +kernel
theorem dX9_send_47 : decode cX9_send 47 = .ok (.invokevirtual 113, 3) := by decide +kernel
theorem dX9_send_50 : decode cX9_send 50 = .ok (.ireturn, 1) := by decide +kernel
theorem dX9_send_51 : decode cX9_send 51 = .ok (.aload_n 0, 1) := by decide +kernel
theorem dX9_send_52 : decode cX9_send 52 = .ok (.getfield 61, 3) := by decide +kernel
theorem dX9_send_55 : decode cX9_send 55 = .ok (.aload_n 0, 1) := by decide +kernel
theorem dX9_send_56 : decode cX9_send 56 = .ok (.getfield 182, 3) := by decide +kernel
theorem dX9_send_59 : decode cX9_send 59 = .ok (.iload_n 1, 1) := by decide +kernel
theorem dX9_send_60 : decode cX9_send 60 = .ok (.iastore, 1) := by decide +kernel
theorem dX9_send_61 : decode cX9_send 61 = .ok (.aload_n 0, 1) := by decide +kernel
theorem dX9_send_62 : decode cX9_send 62 = .ok (.getfield 64, 3) := by decide +kernel
theorem dX9_send_65 : decode cX9_send 65 = .ok (.aload_n 0, 1) := by decide +kernel
theorem dX9_send_66 : decode cX9_send 66 = .ok (.getfield 182, 3) := by decide +kernel
theorem dX9_send_69 : decode cX9_send 69 = .ok (.iload_n 2, 1) := by decide +kernel
theorem dX9_send_70 : decode cX9_send 70 = .ok (.iastore, 1) := by decide +kernel
theorem dX9_send_71 : decode cX9_send 71 = .ok (.aload_n 0, 1) := by decide +kernel
theorem dX9_send_72 : decode cX9_send 72 = .ok (.getfield 67, 3) := by decide +kernel
theorem dX9_send_75 : decode cX9_send 75 = .ok (.aload_n 0, 1) := by decide +kernel
theorem dX9_send_76 : decode cX9_send 76 = .ok (.getfield 182, 3) := by decide +kernel
theorem dX9_send_79 : decode cX9_send 79 = .ok (.aload_n 0, 1) := by decide +kernel
theorem dX9_send_80 : decode cX9_send 80 = .ok (.getfield 75, 3) := by decide +kernel
theorem dX9_send_83 : decode cX9_send 83 = .ok (.getfield 219, 3) := by decide +kernel
theorem dX9_send_86 : decode cX9_send 86 = .ok (.iload_n 3, 1) := by decide +kernel
theorem dX9_send_87 : decode cX9_send 87 = .ok (.iadd, 1) := by decide +kernel
theorem dX9_send_88 : decode cX9_send 88 = .ok (.iastore, 1) := by decide +kernel
theorem dX9_send_89 : decode cX9_send 89 = .ok (.aload_n 0, 1) := by decide +kernel
theorem dX9_send_90 : decode cX9_send 90 = .ok (.getfield 75, 3) := by decide +kernel
theorem dX9_send_93 : decode cX9_send 93 = .ok (.getfield 244, 3) := by decide +kernel
theorem dX9_send_96 : decode cX9_send 96 = .ok (.aload_n 0, 1) := by decide +kernel
theorem dX9_send_97 : decode cX9_send 97 = .ok (.getfield 182, 3) := by decide +kernel
theorem dX9_send_100 : decode cX9_send 100 = .ok (.iconst (-1), 1) := by decide +kernel
theorem dX9_send_101 : decode cX9_send 101 = .ok (.iastore, 1) := by decide +kernel
theorem dX9_send_102 : decode cX9_send 102 = .ok (.aload_n 0, 1) := by decide +kernel
theorem dX9_send_103 : decode cX9_send 103 = .ok (.dup, 1) := by decide +kernel
theorem dX9_send_104 : decode cX9_send 104 = .ok (.getfield 182, 3) := by decide +kernel
theorem dX9_send_107 : decode cX9_send 107 = .ok (.iconst 1, 1) := by decide +kernel
theorem dX9_send_108 : decode cX9_send 108 = .ok (.iadd, 1) := by decide +kernel
theorem dX9_send_109 : decode cX9_send 109 = .ok (.putfield 182, 3) := by decide +kernel
theorem dX9_send_112 : decode cX9_send 112 = .ok (.aload_n 0, 1) := by decide +kernel
theorem dX9_send_113 : decode cX9_send 113 = .ok (.getfield 182, 3) := by decide +kernel
theorem dX9_send_116 : decode cX9_send 116 = .ok (.iconst 1, 1) := by decide +kernel
theorem dX9_send_117 : decode cX9_send 117 = .ok (.isub, 1) := by decide +kernel
theorem dX9_send_118 : decode cX9_send 118 = .ok (.ireturn, 1) := by decide +kernel
theorem dX9_letterTold_0 : decode cX9_letterTold 0 = .ok (.iconst 5, 1) := by decide +kernel
theorem dX9_letterTold_1 : decode cX9_letterTold 1 = .ok (.newarray .int, 2) := by decide +kernel
theorem dX9_letterTold_3 : decode cX9_letterTold 3 = .ok (.dup, 1) := by decide +kernel
theorem dX9_letterTold_4 : decode cX9_letterTold 4 = .ok (.iconst 0, 1) := by decide +kernel
theorem dX9_letterTold_5 : decode cX9_letterTold 5 = .ok (.aload_n 0, 1) := by decide +kernel
theorem dX9_letterTold_6 : decode cX9_letterTold 6 = .ok (.getfield 61, 3) := by decide +kernel
theorem dX9_letterTold_9 : decode cX9_letterTold 9 = .ok (.iload_n 1, 1) := by decide +kernel
theorem dX9_letterTold_10 : decode cX9_letterTold 10 = .ok (.iaload, 1) := by decide +kernel
theorem dX9_letterTold_11 : decode cX9_letterTold 11 = .ok (.iastore, 1) := by decide +kernel
theorem dX9_letterTold_12 : decode cX9_letterTold 12 = .ok (.dup, 1) := by decide +kernel
theorem dX9_letterTold_13 : decode cX9_letterTold 13 = .ok (.iconst 1, 1) := by decide +kernel
theorem dX9_letterTold_14 : decode cX9_letterTold 14 = .ok (.aload_n 0, 1) := by decide +kernel
theorem dX9_letterTold_15 : decode cX9_letterTold 15 = .ok (.getfield 64, 3) := by decide +kernel
theorem dX9_letterTold_18 : decode cX9_letterTold 18 = .ok (.iload_n 1, 1) := by decide +kernel
theorem dX9_letterTold_19 : decode cX9_letterTold 19 = .ok (.iaload, 1) := by decide +kernel
theorem dX9_letterTold_20 : decode cX9_letterTold 20 = .ok (.iastore, 1) := by decide +kernel
theorem dX9_letterTold_21 : decode cX9_letterTold 21 = .ok (.dup, 1) := by decide +kernel
theorem dX9_letterTold_22 : decode cX9_letterTold 22 = .ok (.iconst 2, 1) := by decide +kernel
theorem dX9_letterTold_23 : decode cX9_letterTold 23 = .ok (.aload_n 0, 1) := by decide +kernel
theorem dX9_letterTold_24 : decode cX9_letterTold 24 = .ok (.getfield 67, 3) := by decide +kernel
theorem dX9_letterTold_27 : decode cX9_letterTold 27 = .ok (.iload_n 1, 1) := by decide +kernel
theorem dX9_letterTold_28 : decode cX9_letterTold 28 = .ok (.iaload, 1) := by decide +kernel
theorem dX9_letterTold_29 : decode cX9_letterTold 29 = .ok (.iastore, 1) := by decide +kernel
theorem dX9_letterTold_30 : decode cX9_letterTold 30 = .ok (.dup, 1) := by decide +kernel
theorem dX9_letterTold_31 : decode cX9_letterTold 31 = .ok (.iconst 3, 1) := by decide +kernel
theorem dX9_letterTold_32 : decode cX9_letterTold 32 = .ok (.aload_n 0, 1) := by decide +kernel
theorem dX9_letterTold_33 : decode cX9_letterTold 33 = .ok (.getfield 75, 3) := by decide +kernel
theorem dX9_letterTold_36 : decode cX9_letterTold 36 = .ok (.getfield 185, 3) := by decide +kernel
theorem dX9_letterTold_39 : decode cX9_letterTold 39 = .ok (.iload_n 1, 1) := by decide +kernel
theorem dX9_letterTold_40 : decode cX9_letterTold 40 = .ok (.iaload, 1) := by decide +kernel
theorem dX9_letterTold_41 : decode cX9_letterTold 41 = .ok (.iastore, 1) := by decide +kernel
theorem dX9_letterTold_42 : decode cX9_letterTold 42 = .ok (.dup, 1) := by decide +kernel
theorem dX9_letterTold_43 : decode cX9_letterTold 43 = .ok (.iconst 4, 1) := by decide +kernel
theorem dX9_letterTold_44 : decode cX9_letterTold 44 = .ok (.aload_n 0, 1) := by decide +kernel
theorem dX9_letterTold_45 : decode cX9_letterTold 45 = .ok (.getfield 75, 3) := by decide +kernel
theorem dX9_letterTold_48 : decode cX9_letterTold 48 = .ok (.getfield 244, 3) := by decide +kernel
theorem dX9_letterTold_51 : decode cX9_letterTold 51 = .ok (.iload_n 1, 1) := by decide +kernel
theorem dX9_letterTold_52 : decode cX9_letterTold 52 = .ok (.iaload, 1) := by decide +kernel
theorem dX9_letterTold_53 : decode cX9_letterTold 53 = .ok (.iastore, 1) := by decide +kernel
theorem dX9_letterTold_54 : decode cX9_letterTold 54 = .ok (.astore_n 3, 1) := by decide +kernel
theorem dX9_letterTold_55 : decode cX9_letterTold 55 = .ok (.aload_n 3, 1) := by decide +kernel
theorem dX9_letterTold_56 : decode cX9_letterTold 56 = .ok (.iload_n 2, 1) := by decide +kernel
theorem dX9_letterTold_57 : decode cX9_letterTold 57 = .ok (.iaload, 1) := by decide +kernel
theorem dX9_letterTold_58 : decode cX9_letterTold 58 = .ok (.ireturn, 1) := by decide +kernel
theorem dX9_letter_0 : decode cX9_letter 0 = .ok (.aload_n 0, 1) := by decide +kernel
theorem dX9_letter_1 : decode cX9_letter 1 = .ok (.iconst 0, 1) := by decide +kernel
theorem dX9_letter_2 : decode cX9_letter 2 = .ok (.putfield 91, 3) := by decide +kernel
theorem dX9_letter_5 : decode cX9_letter 5 = .ok (.iload_n 1, 1) := by decide +kernel
theorem dX9_letter_6 : decode cX9_letter 6 = .ok (.iconst 0, 1) := by decide +kernel
theorem dX9_letter_7 : decode cX9_letter 7 = .ok (.aload_n 0, 1) := by decide +kernel
theorem dX9_letter_8 : decode cX9_letter 8 = .ok (.getfield 182, 3) := by decide +kernel
theorem dX9_letter_11 : decode cX9_letter 11 = .ok (.iconst 1, 1) := by decide +kernel
theorem dX9_letter_12 : decode cX9_letter 12 = .ok (.isub, 1) := by decide +kernel
theorem dX9_letter_13 : decode cX9_letter 13 = .ok (.invokestatic 97, 3) := by decide +kernel
theorem dX9_letter_16 : decode cX9_letter 16 = .ok (.ifCond .eq 21, 3) := by decide +kernel
theorem dX9_letter_19 : decode cX9_letter 19 = .ok (.iload_n 2, 1) := by decide +kernel
theorem dX9_letter_20 : decode cX9_letter 20 = .ok (.iconst 0, 1) := by decide +kernel
theorem dX9_letter_21 : decode cX9_letter 21 = .ok (.iconst 4, 1) := by decide +kernel
theorem dX9_letter_22 : decode cX9_letter 22 = .ok (.invokestatic 97, 3) := by decide +kernel
theorem dX9_letter_25 : decode cX9_letter 25 = .ok (.ifCond .eq 12, 3) := by decide +kernel
theorem dX9_letter_28 : decode cX9_letter 28 = .ok (.aload_n 0, 1) := by decide +kernel
theorem dX9_letter_29 : decode cX9_letter 29 = .ok (.iload_n 1, 1) := by decide +kernel
theorem dX9_letter_30 : decode cX9_letter 30 = .ok (.iload_n 2, 1) := by decide +kernel
theorem dX9_letter_31 : decode cX9_letter 31 = .ok (.invokevirtual 247, 3) := by decide +kernel
theorem dX9_letter_34 : decode cX9_letter 34 = .ok (.goto 8, 3) := by decide +kernel
theorem dX9_letter_37 : decode cX9_letter 37 = .ok (.aload_n 0, 1) := by decide +kernel
theorem dX9_letter_38 : decode cX9_letter 38 = .ok (.iconst 1, 1) := by decide +kernel
theorem dX9_letter_39 : decode cX9_letter 39 = .ok (.invokevirtual 113, 3) := by decide +kernel
theorem dX9_letter_42 : decode cX9_letter 42 = .ok (.ireturn, 1) := by decide +kernel
theorem dX9_pass_0 : decode cX9_pass 0 = .ok (.aload_n 0, 1) := by decide +kernel
theorem dX9_pass_1 : decode cX9_pass 1 = .ok (.iconst 0, 1) := by decide +kernel
theorem dX9_pass_2 : decode cX9_pass 2 = .ok (.putfield 91, 3) := by decide +kernel
theorem dX9_pass_5 : decode cX9_pass 5 = .ok (.iload_n 1, 1) := by decide +kernel
theorem dX9_pass_6 : decode cX9_pass 6 = .ok (.iconst 1, 1) := by decide +kernel
theorem dX9_pass_7 : decode cX9_pass 7 = .ok (.bipush 100, 2) := by decide +kernel
theorem dX9_pass_9 : decode cX9_pass 9 = .ok (.invokestatic 97, 3) := by decide +kernel
theorem dX9_pass_12 : decode cX9_pass 12 = .ok (.ifCond .ne 9, 3) := by decide +kernel
theorem dX9_pass_15 : decode cX9_pass 15 = .ok (.aload_n 0, 1) := by decide +kernel
theorem dX9_pass_16 : decode cX9_pass 16 = .ok (.iconst 1, 1) := by decide +kernel
theorem dX9_pass_17 : decode cX9_pass 17 = .ok (.invokevirtual 113, 3) := by decide +kernel
theorem dX9_pass_20 : decode cX9_pass 20 = .ok (.ireturn, 1) := by decide +kernel
theorem dX9_pass_21 : decode cX9_pass 21 = .ok (.iconst 0, 1) := by decide +kernel
theorem dX9_pass_22 : decode cX9_pass 22 = .ok (.istore_n 2, 1) := by decide +kernel
theorem dX9_pass_23 : decode cX9_pass 23 = .ok (.iconst 0, 1) := by decide +kernel
theorem dX9_pass_24 : decode cX9_pass 24 = .ok (.istore_n 3, 1) := by decide +kernel
theorem dX9_pass_25 : decode cX9_pass 25 = .ok (.iload_n 3, 1) := by decide +kernel
theorem dX9_pass_26 : decode cX9_pass 26 = .ok (.iload_n 1, 1) := by decide +kernel
theorem dX9_pass_27 : decode cX9_pass 27 = .ok (.if_icmp .ge 19, 3) := by decide +kernel
theorem dX9_pass_30 : decode cX9_pass 30 = .ok (.iload_n 2, 1) := by decide +kernel
theorem dX9_pass_31 : decode cX9_pass 31 = .ok (.aload_n 0, 1) := by decide +kernel
theorem dX9_pass_32 : decode cX9_pass 32 = .ok (.getfield 75, 3) := by decide +kernel
theorem dX9_pass_35 : decode cX9_pass 35 = .ok (.invokevirtual 250, 3) := by decide +kernel
theorem dX9_pass_38 : decode cX9_pass 38 = .ok (.iadd, 1) := by decide +kernel
theorem dX9_pass_39 : decode cX9_pass 39 = .ok (.istore_n 2, 1) := by decide +kernel
theorem dX9_pass_40 : decode cX9_pass 40 = .ok (.iinc 3 1, 3) := by decide +kernel
theorem dX9_pass_43 : decode cX9_pass 43 = .ok (.goto (-18), 3) := by decide +kernel
theorem dX9_pass_46 : decode cX9_pass 46 = .ok (.iload_n 2, 1) := by decide +kernel
theorem dX9_pass_47 : decode cX9_pass 47 = .ok (.ireturn, 1) := by decide +kernel
theorem dX9_arrives_0 : decode cX9_arrives 0 = .ok (.aload_n 0, 1) := by decide +kernel
theorem dX9_arrives_1 : decode cX9_arrives 1 = .ok (.iconst 0, 1) := by decide +kernel
theorem dX9_arrives_2 : decode cX9_arrives 2 = .ok (.putfield 91, 3) := by decide +kernel
theorem dX9_arrives_5 : decode cX9_arrives 5 = .ok (.iload_n 1, 1) := by decide +kernel
theorem dX9_arrives_6 : decode cX9_arrives 6 = .ok (.iconst 0, 1) := by decide +kernel
theorem dX9_arrives_7 : decode cX9_arrives 7 = .ok (.aload_n 0, 1) := by decide +kernel
theorem dX9_arrives_8 : decode cX9_arrives 8 = .ok (.getfield 182, 3) := by decide +kernel
theorem dX9_arrives_11 : decode cX9_arrives 11 = .ok (.iconst 1, 1) := by decide +kernel
theorem dX9_arrives_12 : decode cX9_arrives 12 = .ok (.isub, 1) := by decide +kernel
theorem dX9_arrives_13 : decode cX9_arrives 13 = .ok (.invokestatic 97, 3) := by decide +kernel
theorem dX9_arrives_16 : decode cX9_arrives 16 = .ok (.ifCond .ne 9, 3) := by decide +kernel
theorem dX9_arrives_19 : decode cX9_arrives 19 = .ok (.aload_n 0, 1) := by decide +kernel
theorem dX9_arrives_20 : decode cX9_arrives 20 = .ok (.iconst 1, 1) := by decide +kernel
theorem dX9_arrives_21 : decode cX9_arrives 21 = .ok (.invokevirtual 113, 3) := by decide +kernel
theorem dX9_arrives_24 : decode cX9_arrives 24 = .ok (.ireturn, 1) := by decide +kernel
theorem dX9_arrives_25 : decode cX9_arrives 25 = .ok (.aload_n 0, 1) := by decide +kernel
theorem dX9_arrives_26 : decode cX9_arrives 26 = .ok (.getfield 79, 3) := by decide +kernel
theorem dX9_arrives_29 : decode cX9_arrives 29 = .ok (.aload_n 0, 1) := by decide +kernel
theorem dX9_arrives_30 : decode cX9_arrives 30 = .ok (.getfield 75, 3) := by decide +kernel
theorem dX9_arrives_33 : decode cX9_arrives 33 = .ok (.invokevirtual 254, 3) := by decide +kernel
theorem dX9_arrives_36 : decode cX9_arrives 36 = .ok (.iconst 0, 1) := by decide +kernel
theorem dX9_arrives_37 : decode cX9_arrives 37 = .ok (.istore_n 2, 1) := by decide +kernel
theorem dX9_arrives_38 : decode cX9_arrives 38 = .ok (.aload_n 0, 1) := by decide +kernel
theorem dX9_arrives_39 : decode cX9_arrives 39 = .ok (.getfield 79, 3) := by decide +kernel
theorem dX9_arrives_42 : decode cX9_arrives 42 = .ok (.getfield 185, 3) := by decide +kernel
theorem dX9_arrives_45 : decode cX9_arrives 45 = .ok (.iload_n 1, 1) := by decide +kernel
theorem dX9_arrives_46 : decode cX9_arrives 46 = .ok (.iaload, 1) := by decide +kernel
theorem dX9_arrives_47 : decode cX9_arrives 47 = .ok (.ifCond .ne 23, 3) := by decide +kernel
theorem dX9_arrives_50 : decode cX9_arrives 50 = .ok (.iload_n 2, 1) := by decide +kernel
theorem dX9_arrives_51 : decode cX9_arrives 51 = .ok (.bipush 40, 2) := by decide +kernel
theorem dX9_arrives_53 : decode cX9_arrives 53 = .ok (.if_icmp .ge 17, 3) := by decide +kernel
theorem dX9_arrives_56 : decode cX9_arrives 56 = .ok (.aload_n 0, 1) := by decide +kernel
theorem dX9_arrives_57 : decode cX9_arrives 57 = .ok (.getfield 79, 3) := by decide +kernel
theorem dX9_arrives_60 : decode cX9_arrives 60 = .ok (.invokevirtual 250, 3) := by decide +kernel
theorem dX9_arrives_63 : decode cX9_arrives 63 = .ok (.pop, 1) := by decide +kernel
theorem dX9_arrives_64 : decode cX9_arrives 64 = .ok (.iinc 2 1, 3) := by decide +kernel
theorem dX9_arrives_67 : decode cX9_arrives 67 = .ok (.goto (-29), 3) := by decide +kernel
theorem dX9_arrives_70 : decode cX9_arrives 70 = .ok (.aload_n 0, 1) := by decide +kernel
theorem dX9_arrives_71 : decode cX9_arrives 71 = .ok (.getfield 79, 3) := by decide +kernel
theorem dX9_arrives_74 : decode cX9_arrives 74 = .ok (.getfield 185, 3) := by decide +kernel
theorem dX9_arrives_77 : decode cX9_arrives 77 = .ok (.iload_n 1, 1) := by decide +kernel
theorem dX9_arrives_78 : decode cX9_arrives 78 = .ok (.iaload, 1) := by decide +kernel
theorem dX9_arrives_79 : decode cX9_arrives 79 = .ok (.iconst 1, 1) := by decide +kernel
theorem dX9_arrives_80 : decode cX9_arrives 80 = .ok (.if_icmp .ne 7, 3) := by decide +kernel
theorem dX9_arrives_83 : decode cX9_arrives 83 = .ok (.iload_n 2, 1) := by decide +kernel
theorem dX9_arrives_84 : decode cX9_arrives 84 = .ok (.goto 4, 3) := by decide +kernel
theorem dX9_arrives_87 : decode cX9_arrives 87 = .ok (.iconst (-1), 1) := by decide +kernel
theorem dX9_arrives_88 : decode cX9_arrives 88 = .ok (.ireturn, 1) := by decide +kernel
theorem dX9_counted_0 : decode cX9_counted 0 = .ok (.iconst 0, 1) := by decide +kernel
theorem dX9_counted_1 : decode cX9_counted 1 = .ok (.istore_n 2, 1) := by decide +kernel
theorem dX9_counted_2 : decode cX9_counted 2 = .ok (.iconst 0, 1) := by decide +kernel
theorem dX9_counted_3 : decode cX9_counted 3 = .ok (.istore_n 3, 1) := by decide +kernel
theorem dX9_counted_4 : decode cX9_counted 4 = .ok (.iconst 0, 1) := by decide +kernel
theorem dX9_counted_5 : decode cX9_counted 5 = .ok (.istore 4, 2) := by decide +kernel
theorem dX9_counted_7 : decode cX9_counted 7 = .ok (.iconst 0, 1) := by decide +kernel
theorem dX9_counted_8 : decode cX9_counted 8 = .ok (.istore 5, 2) := by decide +kernel
theorem dX9_counted_10 : decode cX9_counted 10 = .ok (.iconst 0, 1) := by decide +kernel
theorem dX9_counted_11 : decode cX9_counted 11 = .ok (.istore 6, 2) := by decide +kernel
theorem dX9_counted_13 : decode cX9_counted 13 = .ok (.iload 6, 2) := by decide +kernel
theorem dX9_counted_15 : decode cX9_counted 15 = .ok (.aload_n 0, 1) := by decide +kernel
theorem dX9_counted_16 : decode cX9_counted 16 = .ok (.getfield 182, 3) := by decide +kernel
theorem dX9_counted_19 : decode cX9_counted 19 = .ok (.if_icmp .ge 52, 3) := by decide +kernel
theorem dX9_counted_22 : decode cX9_counted 22 = .ok (.iload_n 2, 1) := by decide +kernel
theorem dX9_counted_23 : decode cX9_counted 23 = .ok (.aload_n 0, 1) := by decide +kernel
theorem dX9_counted_24 : decode cX9_counted 24 = .ok (.getfield 75, 3) := by decide +kernel
theorem dX9_counted_27 : decode cX9_counted 27 = .ok (.getfield 185, 3) := by decide +kernel
theorem dX9_counted_30 : decode cX9_counted 30 = .ok (.iload 6, 2) := by decide +kernel
theorem dX9_counted_32 : decode cX9_counted 32 = .ok (.iaload, 1) := by decide +kernel
theorem dX9_counted_33 : decode cX9_counted 33 = .ok (.ifCond .ne 7, 3) := by decide +kernel
theorem dX9_counted_36 : decode cX9_counted 36 = .ok (.iconst 1, 1) := by decide +kernel
theorem dX9_counted_37 : decode cX9_counted 37 = .ok (.goto 4, 3) := by decide +kernel
theorem dX9_counted_40 : decode cX9_counted 40 = .ok (.iconst 0, 1) := by decide +kernel
theorem dX9_counted_41 : decode cX9_counted 41 = .ok (.iadd, 1) := by decide +kernel
theorem dX9_counted_42 : decode cX9_counted 42 = .ok (.istore_n 2, 1) := by decide +kernel
theorem dX9_counted_43 : decode cX9_counted 43 = .ok (.iload_n 3, 1) := by decide +kernel
theorem dX9_counted_44 : decode cX9_counted 44 = .ok (.aload_n 0, 1) := by decide +kernel
theorem dX9_counted_45 : decode cX9_counted 45 = .ok (.getfield 75, 3) := by decide +kernel
theorem dX9_counted_48 : decode cX9_counted 48 = .ok (.getfield 185, 3) := by decide +kernel
theorem dX9_counted_51 : decode cX9_counted 51 = .ok (.iload 6, 2) := by decide +kernel
theorem dX9_counted_53 : decode cX9_counted 53 = .ok (.iaload, 1) := by decide +kernel
theorem dX9_counted_54 : decode cX9_counted 54 = .ok (.iconst 1, 1) := by decide +kernel
theorem dX9_counted_55 : decode cX9_counted 55 = .ok (.if_icmp .ne 7, 3) := by decide +kernel
theorem dX9_counted_58 : decode cX9_counted 58 = .ok (.iconst 1, 1) := by decide +kernel
theorem dX9_counted_59 : decode cX9_counted 59 = .ok (.goto 4, 3) := by decide +kernel
theorem dX9_counted_62 : decode cX9_counted 62 = .ok (.iconst 0, 1) := by decide +kernel
theorem dX9_counted_63 : decode cX9_counted 63 = .ok (.iadd, 1) := by decide +kernel
theorem dX9_counted_64 : decode cX9_counted 64 = .ok (.istore_n 3, 1) := by decide +kernel
theorem dX9_counted_65 : decode cX9_counted 65 = .ok (.iinc 6 1, 3) := by decide +kernel
theorem dX9_counted_68 : decode cX9_counted 68 = .ok (.goto (-55), 3) := by decide +kernel
theorem dX9_counted_71 : decode cX9_counted 71 = .ok (.iconst 0, 1) := by decide +kernel
theorem dX9_counted_72 : decode cX9_counted 72 = .ok (.istore 6, 2) := by decide +kernel
theorem dX9_counted_74 : decode cX9_counted 74 = .ok (.iload 6, 2) := by decide +kernel
theorem dX9_counted_76 : decode cX9_counted 76 = .ok (.aload_n 0, 1) := by decide +kernel
theorem dX9_counted_77 : decode cX9_counted 77 = .ok (.getfield 107, 3) := by decide +kernel
theorem dX9_counted_80 : decode cX9_counted 80 = .ok (.if_icmp .ge 31, 3) := by decide +kernel
theorem dX9_counted_83 : decode cX9_counted 83 = .ok (.iload 4, 2) := by decide +kernel
theorem dX9_counted_85 : decode cX9_counted 85 = .ok (.aload_n 0, 1) := by decide +kernel
theorem dX9_counted_86 : decode cX9_counted 86 = .ok (.getfield 49, 3) := by decide +kernel
theorem dX9_counted_89 : decode cX9_counted 89 = .ok (.iload 6, 2) := by decide +kernel
theorem dX9_counted_91 : decode cX9_counted 91 = .ok (.iaload, 1) := by decide +kernel
theorem dX9_counted_92 : decode cX9_counted 92 = .ok (.bipush (-2), 2) := by decide +kernel
theorem dX9_counted_94 : decode cX9_counted 94 = .ok (.if_icmp .ne 7, 3) := by decide +kernel
theorem dX9_counted_97 : decode cX9_counted 97 = .ok (.iconst 1, 1) := by decide +kernel
theorem dX9_counted_98 : decode cX9_counted 98 = .ok (.goto 4, 3) := by decide +kernel
theorem dX9_counted_101 : decode cX9_counted 101 = .ok (.iconst 0, 1) := by decide +kernel
theorem dX9_counted_102 : decode cX9_counted 102 = .ok (.iadd, 1) := by decide +kernel
theorem dX9_counted_103 : decode cX9_counted 103 = .ok (.istore 4, 2) := by decide +kernel
theorem dX9_counted_105 : decode cX9_counted 105 = .ok (.iinc 6 1, 3) := by decide +kernel
theorem dX9_counted_108 : decode cX9_counted 108 = .ok (.goto (-34), 3) := by decide +kernel
theorem dX9_counted_111 : decode cX9_counted 111 = .ok (.iconst 0, 1) := by decide +kernel
theorem dX9_counted_112 : decode cX9_counted 112 = .ok (.istore 6, 2) := by decide +kernel
theorem dX9_counted_114 : decode cX9_counted 114 = .ok (.iload 6, 2) := by decide +kernel
theorem dX9_counted_116 : decode cX9_counted 116 = .ok (.aload_n 0, 1) := by decide +kernel
theorem dX9_counted_117 : decode cX9_counted 117 = .ok (.getfield 104, 3) := by decide +kernel
theorem dX9_counted_120 : decode cX9_counted 120 = .ok (.if_icmp .ge 33, 3) := by decide +kernel
theorem dX9_counted_123 : decode cX9_counted 123 = .ok (.iload 5, 2) := by decide +kernel
theorem dX9_counted_125 : decode cX9_counted 125 = .ok (.aload_n 0, 1) := by decide +kernel
theorem dX9_counted_126 : decode cX9_counted 126 = .ok (.getfield 75, 3) := by decide +kernel
theorem dX9_counted_129 : decode cX9_counted 129 = .ok (.getfield 158, 3) := by decide +kernel
theorem dX9_counted_132 : decode cX9_counted 132 = .ok (.iload 6, 2) := by decide +kernel
theorem dX9_counted_134 : decode cX9_counted 134 = .ok (.iaload, 1) := by decide +kernel
theorem dX9_counted_135 : decode cX9_counted 135 = .ok (.iconst (-1), 1) := by decide +kernel
theorem dX9_counted_136 : decode cX9_counted 136 = .ok (.if_icmp .ne 7, 3) := by decide +kernel
theorem dX9_counted_139 : decode cX9_counted 139 = .ok (.iconst 0, 1) := by decide +kernel
theorem dX9_counted_140 : decode cX9_counted 140 = .ok (.goto 4, 3) := by decide +kernel
theorem dX9_counted_143 : decode cX9_counted 143 = .ok (.iconst 1, 1) := by decide +kernel
theorem dX9_counted_144 : decode cX9_counted 144 = .ok (.iadd, 1) := by decide +kernel
theorem dX9_counted_145 : decode cX9_counted 145 = .ok (.istore 5, 2) := by decide +kernel
theorem dX9_counted_147 : decode cX9_counted 147 = .ok (.iinc 6 1, 3) := by decide +kernel
theorem dX9_counted_150 : decode cX9_counted 150 = .ok (.goto (-36), 3) := by decide +kernel
theorem dX9_counted_153 : decode cX9_counted 153 = .ok (.bipush 12, 2) := by decide +kernel
theorem dX9_counted_155 : decode cX9_counted 155 = .ok (.newarray .int, 2) := by decide +kernel
theorem dX9_counted_157 : decode cX9_counted 157 = .ok (.dup, 1) := by decide +kernel
theorem dX9_counted_158 : decode cX9_counted 158 = .ok (.iconst 0, 1) := by decide +kernel
theorem dX9_counted_159 : decode cX9_counted 159 = .ok (.aload_n 0, 1) := by decide +kernel
theorem dX9_counted_160 : decode cX9_counted 160 = .ok (.getfield 75, 3) := by decide +kernel
theorem dX9_counted_163 : decode cX9_counted 163 = .ok (.getfield 219, 3) := by decide +kernel
theorem dX9_counted_166 : decode cX9_counted 166 = .ok (.iastore, 1) := by decide +kernel
theorem dX9_counted_167 : decode cX9_counted 167 = .ok (.dup, 1) := by decide +kernel
theorem dX9_counted_168 : decode cX9_counted 168 = .ok (.iconst 1, 1) := by decide +kernel
theorem dX9_counted_169 : decode cX9_counted 169 = .ok (.aload_n 0, 1) := by decide +kernel
theorem dX9_counted_170 : decode cX9_counted 170 = .ok (.getfield 94, 3) := by decide +kernel
theorem dX9_counted_173 : decode cX9_counted 173 = .ok (.iastore, 1) := by decide +kernel
theorem dX9_counted_174 : decode cX9_counted 174 = .ok (.dup, 1) := by decide +kernel
theorem dX9_counted_175 : decode cX9_counted 175 = .ok (.iconst 2, 1) := by decide +kernel
theorem dX9_counted_176 : decode cX9_counted 176 = .ok (.aload_n 0, 1) := by decide +kernel
theorem dX9_counted_177 : decode cX9_counted 177 = .ok (.getfield 101, 3) := by decide +kernel
theorem dX9_counted_180 : decode cX9_counted 180 = .ok (.iastore, 1) := by decide +kernel
theorem dX9_counted_181 : decode cX9_counted 181 = .ok (.dup, 1) := by decide +kernel
theorem dX9_counted_182 : decode cX9_counted 182 = .ok (.iconst 3, 1) := by decide +kernel
theorem dX9_counted_183 : decode cX9_counted 183 = .ok (.aload_n 0, 1) := by decide +kernel
theorem dX9_counted_184 : decode cX9_counted 184 = .ok (.getfield 104, 3) := by decide +kernel
theorem dX9_counted_187 : decode cX9_counted 187 = .ok (.iastore, 1) := by decide +kernel
theorem dX9_counted_188 : decode cX9_counted 188 = .ok (.dup, 1) := by decide +kernel
theorem dX9_counted_189 : decode cX9_counted 189 = .ok (.iconst 4, 1) := by decide +kernel
theorem dX9_counted_190 : decode cX9_counted 190 = .ok (.aload_n 0, 1) := by decide +kernel
theorem dX9_counted_191 : decode cX9_counted 191 = .ok (.getfield 107, 3) := by decide +kernel
theorem dX9_counted_194 : decode cX9_counted 194 = .ok (.iastore, 1) := by decide +kernel
theorem dX9_counted_195 : decode cX9_counted 195 = .ok (.dup, 1) := by decide +kernel
theorem dX9_counted_196 : decode cX9_counted 196 = .ok (.iconst 5, 1) := by decide +kernel
theorem dX9_counted_197 : decode cX9_counted 197 = .ok (.aload_n 0, 1) := by decide +kernel
theorem dX9_counted_198 : decode cX9_counted 198 = .ok (.getfield 182, 3) := by decide +kernel
theorem dX9_counted_201 : decode cX9_counted 201 = .ok (.iastore, 1) := by decide +kernel
theorem dX9_counted_202 : decode cX9_counted 202 = .ok (.dup, 1) := by decide +kernel
theorem dX9_counted_203 : decode cX9_counted 203 = .ok (.bipush 6, 2) := by decide +kernel
theorem dX9_counted_205 : decode cX9_counted 205 = .ok (.iload_n 2, 1) := by decide +kernel
theorem dX9_counted_206 : decode cX9_counted 206 = .ok (.iastore, 1) := by decide +kernel
theorem dX9_counted_207 : decode cX9_counted 207 = .ok (.dup, 1) := by decide +kernel
theorem dX9_counted_208 : decode cX9_counted 208 = .ok (.bipush 7, 2) := by decide +kernel
theorem dX9_counted_210 : decode cX9_counted 210 = .ok (.iload_n 3, 1) := by decide +kernel
theorem dX9_counted_211 : decode cX9_counted 211 = .ok (.iastore, 1) := by decide +kernel
theorem dX9_counted_212 : decode cX9_counted 212 = .ok (.dup, 1) := by decide +kernel
theorem dX9_counted_213 : decode cX9_counted 213 = .ok (.bipush 8, 2) := by decide +kernel
theorem dX9_counted_215 : decode cX9_counted 215 = .ok (.aload_n 0, 1) := by decide +kernel
theorem dX9_counted_216 : decode cX9_counted 216 = .ok (.getfield 110, 3) := by decide +kernel
theorem dX9_counted_219 : decode cX9_counted 219 = .ok (.iastore, 1) := by decide +kernel
theorem dX9_counted_220 : decode cX9_counted 220 = .ok (.dup, 1) := by decide +kernel
theorem dX9_counted_221 : decode cX9_counted 221 = .ok (.bipush 9, 2) := by decide +kernel
theorem dX9_counted_223 : decode cX9_counted 223 = .ok (.aload_n 0, 1) := by decide +kernel
theorem dX9_counted_224 : decode cX9_counted 224 = .ok (.getfield 210, 3) := by decide +kernel
theorem dX9_counted_227 : decode cX9_counted 227 = .ok (.iastore, 1) := by decide +kernel
theorem dX9_counted_228 : decode cX9_counted 228 = .ok (.dup, 1) := by decide +kernel
theorem dX9_counted_229 : decode cX9_counted 229 = .ok (.bipush 10, 2) := by decide +kernel
theorem dX9_counted_231 : decode cX9_counted 231 = .ok (.iload 4, 2) := by decide +kernel
theorem dX9_counted_233 : decode cX9_counted 233 = .ok (.iastore, 1) := by decide +kernel
theorem dX9_counted_234 : decode cX9_counted 234 = .ok (.dup, 1) := by decide +kernel
theorem dX9_counted_235 : decode cX9_counted 235 = .ok (.bipush 11, 2) := by decide +kernel
theorem dX9_counted_237 : decode cX9_counted 237 = .ok (.iload 5, 2) := by decide +kernel
theorem dX9_counted_239 : decode cX9_counted 239 = .ok (.iastore, 1) := by decide +kernel
theorem dX9_counted_240 : decode cX9_counted 240 = .ok (.astore 6, 2) := by decide +kernel
theorem dX9_counted_242 : decode cX9_counted 242 = .ok (.aload 6, 2) := by decide +kernel
theorem dX9_counted_244 : decode cX9_counted 244 = .ok (.iload_n 1, 1) := by decide +kernel
theorem dX9_counted_245 : decode cX9_counted 245 = .ok (.iaload, 1) := by decide +kernel
theorem dX9_counted_246 : decode cX9_counted 246 = .ok (.ireturn, 1) := by decide +kernel
theorem dX9_count_0 : decode cX9_count 0 = .ok (.aload_n 0, 1) := by decide +kernel
theorem dX9_count_1 : decode cX9_count 1 = .ok (.iconst 0, 1) := by decide +kernel
theorem dX9_count_2 : decode cX9_count 2 = .ok (.putfield 91, 3) := by decide +kernel
theorem dX9_count_5 : decode cX9_count 5 = .ok (.iload_n 1, 1) := by decide +kernel
theorem dX9_count_6 : decode cX9_count 6 = .ok (.iconst 0, 1) := by decide +kernel
theorem dX9_count_7 : decode cX9_count 7 = .ok (.bipush 11, 2) := by decide +kernel
theorem dX9_count_9 : decode cX9_count 9 = .ok (.invokestatic 97, 3) := by decide +kernel
theorem dX9_count_12 : decode cX9_count 12 = .ok (.ifCond .eq 11, 3) := by decide +kernel
theorem dX9_count_15 : decode cX9_count 15 = .ok (.aload_n 0, 1) := by decide +kernel
theorem dX9_count_16 : decode cX9_count 16 = .ok (.iload_n 1, 1) := by decide +kernel
theorem dX9_count_17 : decode cX9_count 17 = .ok (.invokevirtual 258, 3) := by decide +kernel
theorem dX9_count_20 : decode cX9_count 20 = .ok (.goto 8, 3) := by decide +kernel
theorem dX9_count_23 : decode cX9_count 23 = .ok (.aload_n 0, 1) := by decide +kernel
theorem dX9_count_24 : decode cX9_count 24 = .ok (.iconst 1, 1) := by decide +kernel
theorem dX9_count_25 : decode cX9_count 25 = .ok (.invokevirtual 113, 3) := by decide +kernel
theorem dX9_count_28 : decode cX9_count 28 = .ok (.ireturn, 1) := by decide +kernel
theorem dX9_sees_0 : decode cX9_sees 0 = .ok (.aload_n 0, 1) := by decide +kernel
theorem dX9_sees_1 : decode cX9_sees 1 = .ok (.iconst 0, 1) := by decide +kernel
theorem dX9_sees_2 : decode cX9_sees 2 = .ok (.putfield 91, 3) := by decide +kernel
theorem dX9_sees_5 : decode cX9_sees 5 = .ok (.aload_n 0, 1) := by decide +kernel
theorem dX9_sees_6 : decode cX9_sees 6 = .ok (.iload_n 1, 1) := by decide +kernel
theorem dX9_sees_7 : decode cX9_sees 7 = .ok (.invokevirtual 147, 3) := by decide +kernel
theorem dX9_sees_10 : decode cX9_sees 10 = .ok (.ifCond .ne 9, 3) := by decide +kernel
theorem dX9_sees_13 : decode cX9_sees 13 = .ok (.aload_n 0, 1) := by decide +kernel
theorem dX9_sees_14 : decode cX9_sees 14 = .ok (.iconst 1, 1) := by decide +kernel
theorem dX9_sees_15 : decode cX9_sees 15 = .ok (.invokevirtual 113, 3) := by decide +kernel
theorem dX9_sees_18 : decode cX9_sees 18 = .ok (.ireturn, 1) := by decide +kernel
theorem dX9_sees_19 : decode cX9_sees 19 = .ok (.iconst 0, 1) := by decide +kernel
theorem dX9_sees_20 : decode cX9_sees 20 = .ok (.istore_n 2, 1) := by decide +kernel
theorem dX9_sees_21 : decode cX9_sees 21 = .ok (.iconst (-1), 1) := by decide +kernel
theorem dX9_sees_22 : decode cX9_sees 22 = .ok (.istore_n 3, 1) := by decide +kernel
theorem dX9_sees_23 : decode cX9_sees 23 = .ok (.iconst 0, 1) := by decide +kernel
theorem dX9_sees_24 : decode cX9_sees 24 = .ok (.istore 4, 2) := by decide +kernel
theorem dX9_sees_26 : decode cX9_sees 26 = .ok (.iload 4, 2) := by decide +kernel
theorem dX9_sees_28 : decode cX9_sees 28 = .ok (.aload_n 0, 1) := by decide +kernel
theorem dX9_sees_29 : decode cX9_sees 29 = .ok (.getfield 101, 3) := by decide +kernel
theorem dX9_sees_32 : decode cX9_sees 32 = .ok (.if_icmp .ge 106, 3) := by decide +kernel
theorem dX9_sees_35 : decode cX9_sees 35 = .ok (.aload_n 0, 1) := by decide +kernel
theorem dX9_sees_36 : decode cX9_sees 36 = .ok (.getfield 23, 3) := by decide +kernel
theorem dX9_sees_39 : decode cX9_sees 39 = .ok (.iload 4, 2) := by decide +kernel
theorem dX9_sees_41 : decode cX9_sees 41 = .ok (.iaload, 1) := by decide +kernel
theorem dX9_sees_42 : decode cX9_sees 42 = .ok (.ifCond .eq 90, 3) := by decide +kernel
theorem dX9_sees_45 : decode cX9_sees 45 = .ok (.aload_n 0, 1) := by decide +kernel
theorem dX9_sees_46 : decode cX9_sees 46 = .ok (.getfield 23, 3) := by decide +kernel
theorem dX9_sees_49 : decode cX9_sees 49 = .ok (.iload 4, 2) := by decide +kernel
theorem dX9_sees_51 : decode cX9_sees 51 = .ok (.iaload, 1) := by decide +kernel
theorem dX9_sees_52 : decode cX9_sees 52 = .ok (.iconst 1, 1) := by decide +kernel
theorem dX9_sees_53 : decode cX9_sees 53 = .ok (.if_icmp .ne 6, 3) := by decide +kernel
theorem dX9_sees_56 : decode cX9_sees 56 = .ok (.goto 76, 3) := by decide +kernel
theorem dX9_sees_59 : decode cX9_sees 59 = .ok (.iconst 0, 1) := by decide +kernel
theorem dX9_sees_60 : decode cX9_sees 60 = .ok (.istore 5, 2) := by decide +kernel
theorem dX9_sees_62 : decode cX9_sees 62 = .ok (.iconst 0, 1) := by decide +kernel
theorem dX9_sees_63 : decode cX9_sees 63 = .ok (.istore 6, 2) := by decide +kernel
theorem dX9_sees_65 : decode cX9_sees 65 = .ok (.iload 6, 2) := by decide +kernel
theorem dX9_sees_67 : decode cX9_sees 67 = .ok (.aload_n 0, 1) := by decide +kernel
theorem dX9_sees_68 : decode cX9_sees 68 = .ok (.getfield 104, 3) := by decide +kernel
theorem dX9_sees_71 : decode cX9_sees 71 = .ok (.if_icmp .ge 46, 3) := by decide +kernel
theorem dX9_sees_74 : decode cX9_sees 74 = .ok (.iload 5, 2) := by decide +kernel
theorem dX9_sees_76 : decode cX9_sees 76 = .ok (.aload_n 0, 1) := by decide +kernel
theorem dX9_sees_77 : decode cX9_sees 77 = .ok (.getfield 29, 3) := by decide +kernel
theorem dX9_sees_80 : decode cX9_sees 80 = .ok (.iload 6, 2) := by decide +kernel
theorem dX9_sees_82 : decode cX9_sees 82 = .ok (.iaload, 1) := by decide +kernel
theorem dX9_sees_83 : decode cX9_sees 83 = .ok (.iload_n 1, 1) := by decide +kernel
theorem dX9_sees_84 : decode cX9_sees 84 = .ok (.if_icmp .ne 23, 3) := by decide +kernel
theorem dX9_sees_87 : decode cX9_sees 87 = .ok (.aload_n 0, 1) := by decide +kernel
theorem dX9_sees_88 : decode cX9_sees 88 = .ok (.getfield 33, 3) := by decide +kernel
theorem dX9_sees_91 : decode cX9_sees 91 = .ok (.iload 6, 2) := by decide +kernel
theorem dX9_sees_93 : decode cX9_sees 93 = .ok (.aaload, 1) := by decide +kernel
theorem dX9_sees_94 : decode cX9_sees 94 = .ok (.arraylength, 1) := by decide +kernel
theorem dX9_sees_95 : decode cX9_sees 95 = .ok (.aload_n 0, 1) := by decide +kernel
theorem dX9_sees_96 : decode cX9_sees 96 = .ok (.iload 4, 2) := by decide +kernel
theorem dX9_sees_98 : decode cX9_sees 98 = .ok (.iload 6, 2) := by decide +kernel
theorem dX9_sees_100 : decode cX9_sees 100 = .ok (.invokevirtual 216, 3) := by decide +kernel
theorem dX9_sees_103 : decode cX9_sees 103 = .ok (.isub, 1) := by decide +kernel
theorem dX9_sees_104 : decode cX9_sees 104 = .ok (.goto 4, 3) := by decide +kernel
theorem dX9_sees_107 : decode cX9_sees 107 = .ok (.iconst 0, 1) := by decide +kernel
theorem dX9_sees_108 : decode cX9_sees 108 = .ok (.iadd, 1) := by decide +kernel
theorem dX9_sees_109 : decode cX9_sees 109 = .ok (.istore 5, 2) := by decide +kernel
theorem dX9_sees_111 : decode cX9_sees 111 = .ok (.iinc 6 1, 3) := by decide +kernel
theorem dX9_sees_114 : decode cX9_sees 114 = .ok (.goto (-49), 3) := by decide +kernel
theorem dX9_sees_117 : decode cX9_sees 117 = .ok (.iload 5, 2) := by decide +kernel
theorem dX9_sees_119 : decode cX9_sees 119 = .ok (.iload_n 2, 1) := by decide +kernel
theorem dX9_sees_120 : decode cX9_sees 120 = .ok (.if_icmp .gt 6, 3) := by decide +kernel
theorem dX9_sees_123 : decode cX9_sees 123 = .ok (.goto 9, 3) := by decide +kernel
theorem dX9_sees_126 : decode cX9_sees 126 = .ok (.iload 5, 2) := by decide +kernel
theorem dX9_sees_128 : decode cX9_sees 128 = .ok (.istore_n 2, 1) := by decide +kernel
theorem dX9_sees_129 : decode cX9_sees 129 = .ok (.iload 4, 2) := by decide +kernel
theorem dX9_sees_131 : decode cX9_sees 131 = .ok (.istore_n 3, 1) := by decide +kernel
theorem dX9_sees_132 : decode cX9_sees 132 = .ok (.iinc 4 1, 3) := by decide +kernel
theorem dX9_sees_135 : decode cX9_sees 135 = .ok (.goto (-109), 3) := by decide +kernel
theorem dX9_sees_138 : decode cX9_sees 138 = .ok (.iload_n 3, 1) := by decide +kernel
theorem dX9_sees_139 : decode cX9_sees 139 = .ok (.ireturn, 1) := by decide +kernel
theorem dX9_plain_0 : decode cX9_plain 0 = .ok (.aload_n 0, 1) := by decide +kernel
theorem dX9_plain_1 : decode cX9_plain 1 = .ok (.iconst 0, 1) := by decide +kernel
theorem dX9_plain_2 : decode cX9_plain 2 = .ok (.putfield 91, 3) := by decide +kernel
theorem dX9_plain_5 : decode cX9_plain 5 = .ok (.iconst 0, 1) := by decide +kernel
theorem dX9_plain_6 : decode cX9_plain 6 = .ok (.istore_n 1, 1) := by decide +kernel
theorem dX9_plain_7 : decode cX9_plain 7 = .ok (.iconst 0, 1) := by decide +kernel
theorem dX9_plain_8 : decode cX9_plain 8 = .ok (.istore_n 2, 1) := by decide +kernel
theorem dX9_plain_9 : decode cX9_plain 9 = .ok (.iconst 0, 1) := by decide +kernel
theorem dX9_plain_10 : decode cX9_plain 10 = .ok (.istore_n 3, 1) := by decide +kernel
theorem dX9_plain_11 : decode cX9_plain 11 = .ok (.iload_n 3, 1) := by decide +kernel
theorem dX9_plain_12 : decode cX9_plain 12 = .ok (.aload_n 0, 1) := by decide +kernel
theorem dX9_plain_13 : decode cX9_plain 13 = .ok (.getfield 104, 3) := by decide +kernel
theorem dX9_plain_16 : decode cX9_plain 16 = .ok (.if_icmp .ge 60, 3) := by decide +kernel
theorem dX9_plain_19 : decode cX9_plain 19 = .ok (.iload_n 2, 1) := by decide +kernel
theorem dX9_plain_20 : decode cX9_plain 20 = .ok (.aload_n 0, 1) := by decide +kernel
theorem dX9_plain_21 : decode cX9_plain 21 = .ok (.getfield 33, 3) := by decide +kernel
theorem dX9_plain_24 : decode cX9_plain 24 = .ok (.iload_n 3, 1) := by decide +kernel
theorem dX9_plain_25 : decode cX9_plain 25 = .ok (.aaload, 1) := by decide +kernel
theorem dX9_plain_26 : decode cX9_plain 26 = .ok (.arraylength, 1) := by decide +kernel
theorem dX9_plain_27 : decode cX9_plain 27 = .ok (.iadd, 1) := by decide +kernel
theorem dX9_plain_28 : decode cX9_plain 28 = .ok (.istore_n 2, 1) := by decide +kernel
theorem dX9_plain_29 : decode cX9_plain 29 = .ok (.iconst 0, 1) := by decide +kernel
theorem dX9_plain_30 : decode cX9_plain 30 = .ok (.istore 4, 2) := by decide +kernel
theorem dX9_plain_32 : decode cX9_plain 32 = .ok (.iload 4, 2) := by decide +kernel
theorem dX9_plain_34 : decode cX9_plain 34 = .ok (.aload_n 0, 1) := by decide +kernel
theorem dX9_plain_35 : decode cX9_plain 35 = .ok (.getfield 33, 3) := by decide +kernel
theorem dX9_plain_38 : decode cX9_plain 38 = .ok (.iload_n 3, 1) := by decide +kernel
theorem dX9_plain_39 : decode cX9_plain 39 = .ok (.aaload, 1) := by decide +kernel
theorem dX9_plain_40 : decode cX9_plain 40 = .ok (.arraylength, 1) := by decide +kernel
theorem dX9_plain_41 : decode cX9_plain 41 = .ok (.if_icmp .ge 29, 3) := by decide +kernel
theorem dX9_plain_44 : decode cX9_plain 44 = .ok (.iload_n 1, 1) := by decide +kernel
theorem dX9_plain_45 : decode cX9_plain 45 = .ok (.aload_n 0, 1) := by decide +kernel
theorem dX9_plain_46 : decode cX9_plain 46 = .ok (.getfield 37, 3) := by decide +kernel
theorem dX9_plain_49 : decode cX9_plain 49 = .ok (.iload_n 3, 1) := by decide +kernel
theorem dX9_plain_50 : decode cX9_plain 50 = .ok (.aaload, 1) := by decide +kernel
theorem dX9_plain_51 : decode cX9_plain 51 = .ok (.iload 4, 2) := by decide +kernel
theorem dX9_plain_53 : decode cX9_plain 53 = .ok (.iaload, 1) := by decide +kernel
theorem dX9_plain_54 : decode cX9_plain 54 = .ok (.ifCond .ne 7, 3) := by decide +kernel
theorem dX9_plain_57 : decode cX9_plain 57 = .ok (.iconst 1, 1) := by decide +kernel
theorem dX9_plain_58 : decode cX9_plain 58 = .ok (.goto 4, 3) := by decide +kernel
theorem dX9_plain_61 : decode cX9_plain 61 = .ok (.iconst 0, 1) := by decide +kernel
theorem dX9_plain_62 : decode cX9_plain 62 = .ok (.iadd, 1) := by decide +kernel
theorem dX9_plain_63 : decode cX9_plain 63 = .ok (.istore_n 1, 1) := by decide +kernel
theorem dX9_plain_64 : decode cX9_plain 64 = .ok (.iinc 4 1, 3) := by decide +kernel
theorem dX9_plain_67 : decode cX9_plain 67 = .ok (.goto (-35), 3) := by decide +kernel
theorem dX9_plain_70 : decode cX9_plain 70 = .ok (.iinc 3 1, 3) := by decide +kernel
theorem dX9_plain_73 : decode cX9_plain 73 = .ok (.goto (-62), 3) := by decide +kernel
theorem dX9_plain_76 : decode cX9_plain 76 = .ok (.iload_n 2, 1) := by decide +kernel
theorem dX9_plain_77 : decode cX9_plain 77 = .ok (.ifCond .ne 7, 3) := by decide +kernel
theorem dX9_plain_80 : decode cX9_plain 80 = .ok (.dconst 1, 1) := by decide +kernel
theorem dX9_plain_81 : decode cX9_plain 81 = .ok (.goto 8, 3) := by decide +kernel
theorem dX9_plain_84 : decode cX9_plain 84 = .ok (.iload_n 1, 1) := by decide +kernel
theorem dX9_plain_85 : decode cX9_plain 85 = .ok (.i2d, 1) := by decide +kernel
theorem dX9_plain_86 : decode cX9_plain 86 = .ok (.iload_n 2, 1) := by decide +kernel
theorem dX9_plain_87 : decode cX9_plain 87 = .ok (.i2d, 1) := by decide +kernel
theorem dX9_plain_88 : decode cX9_plain 88 = .ok (.ddiv, 1) := by decide +kernel
theorem dX9_plain_89 : decode cX9_plain 89 = .ok (.dreturn, 1) := by decide +kernel
theorem dX9_digest_0 : decode cX9_digest 0 = .ok (.aload_n 0, 1) := by decide +kernel
theorem dX9_digest_1 : decode cX9_digest 1 = .ok (.iconst 0, 1) := by decide +kernel
theorem dX9_digest_2 : decode cX9_digest 2 = .ok (.putfield 91, 3) := by decide +kernel
theorem dX9_digest_5 : decode cX9_digest 5 = .ok (.ldc2_w 261, 3) := by decide +kernel
theorem dX9_digest_8 : decode cX9_digest 8 = .ok (.lstore_n 1, 1) := by decide +kernel
theorem dX9_digest_9 : decode cX9_digest 9 = .ok (.iconst 0, 1) := by decide +kernel
theorem dX9_digest_10 : decode cX9_digest 10 = .ok (.istore_n 3, 1) := by decide +kernel
theorem dX9_digest_11 : decode cX9_digest 11 = .ok (.iload_n 3, 1) := by decide +kernel
theorem dX9_digest_12 : decode cX9_digest 12 = .ok (.bipush 11, 2) := by decide +kernel
theorem dX9_digest_14 : decode cX9_digest 14 = .ok (.if_icmp .gt 22, 3) := by decide +kernel
theorem dX9_digest_17 : decode cX9_digest 17 = .ok (.lload_n 1, 1) := by decide +kernel
theorem dX9_digest_18 : decode cX9_digest 18 = .ok (.ldc2_w 263, 3) := by decide +kernel
theorem dX9_digest_21 : decode cX9_digest 21 = .ok (.lmul, 1) := by decide +kernel
theorem dX9_digest_22 : decode cX9_digest 22 = .ok (.aload_n 0, 1) := by decide +kernel
theorem dX9_digest_23 : decode cX9_digest 23 = .ok (.iload_n 3, 1) := by decide +kernel
theorem dX9_digest_24 : decode cX9_digest 24 = .ok (.invokevirtual 258, 3) := by decide +kernel
theorem dX9_digest_27 : decode cX9_digest 27 = .ok (.i2l, 1) := by decide +kernel
theorem dX9_digest_28 : decode cX9_digest 28 = .ok (.ladd, 1) := by decide +kernel
theorem dX9_digest_29 : decode cX9_digest 29 = .ok (.lstore_n 1, 1) := by decide +kernel
theorem dX9_digest_30 : decode cX9_digest 30 = .ok (.iinc 3 1, 3) := by decide +kernel
theorem dX9_digest_33 : decode cX9_digest 33 = .ok (.goto (-22), 3) := by decide +kernel
theorem dX9_digest_36 : decode cX9_digest 36 = .ok (.iconst 0, 1) := by decide +kernel
theorem dX9_digest_37 : decode cX9_digest 37 = .ok (.istore_n 3, 1) := by decide +kernel
theorem dX9_digest_38 : decode cX9_digest 38 = .ok (.iload_n 3, 1) := by decide +kernel
theorem dX9_digest_39 : decode cX9_digest 39 = .ok (.aload_n 0, 1) := by decide +kernel
theorem dX9_digest_40 : decode cX9_digest 40 = .ok (.getfield 94, 3) := by decide +kernel
theorem dX9_digest_43 : decode cX9_digest 43 = .ok (.if_icmp .ge 39, 3) := by decide +kernel
theorem dX9_digest_46 : decode cX9_digest 46 = .ok (.iconst 0, 1) := by decide +kernel
theorem dX9_digest_47 : decode cX9_digest 47 = .ok (.istore 4, 2) := by decide +kernel
theorem dX9_digest_49 : decode cX9_digest 49 = .ok (.iload 4, 2) := by decide +kernel
theorem dX9_digest_51 : decode cX9_digest 51 = .ok (.iconst 4, 1) := by decide +kernel
theorem dX9_digest_52 : decode cX9_digest 52 = .ok (.if_icmp .gt 24, 3) := by decide +kernel
theorem dX9_digest_55 : decode cX9_digest 55 = .ok (.lload_n 1, 1) := by decide +kernel
theorem dX9_digest_56 : decode cX9_digest 56 = .ok (.ldc2_w 263, 3) := by decide +kernel
theorem dX9_digest_59 : decode cX9_digest 59 = .ok (.lmul, 1) := by decide +kernel
theorem dX9_digest_60 : decode cX9_digest 60 = .ok (.aload_n 0, 1) := by decide +kernel
theorem dX9_digest_61 : decode cX9_digest 61 = .ok (.iload_n 3, 1) := by decide +kernel
theorem dX9_digest_62 : decode cX9_digest 62 = .ok (.iload 4, 2) := by decide +kernel
theorem dX9_digest_64 : decode cX9_digest 64 = .ok (.invokevirtual 197, 3) := by decide +kernel
theorem dX9_digest_67 : decode cX9_digest 67 = .ok (.i2l, 1) := by decide +kernel
theorem dX9_digest_68 : decode cX9_digest 68 = .ok (.ladd, 1) := by decide +kernel
theorem dX9_digest_69 : decode cX9_digest 69 = .ok (.lstore_n 1, 1) := by decide +kernel
theorem dX9_digest_70 : decode cX9_digest 70 = .ok (.iinc 4 1, 3) := by decide +kernel
theorem dX9_digest_73 : decode cX9_digest 73 = .ok (.goto (-24), 3) := by decide +kernel
theorem dX9_digest_76 : decode cX9_digest 76 = .ok (.iinc 3 1, 3) := by decide +kernel
theorem dX9_digest_79 : decode cX9_digest 79 = .ok (.goto (-41), 3) := by decide +kernel
theorem dX9_digest_82 : decode cX9_digest 82 = .ok (.iconst 0, 1) := by decide +kernel
theorem dX9_digest_83 : decode cX9_digest 83 = .ok (.istore_n 3, 1) := by decide +kernel
theorem dX9_digest_84 : decode cX9_digest 84 = .ok (.iload_n 3, 1) := by decide +kernel
theorem dX9_digest_85 : decode cX9_digest 85 = .ok (.aload_n 0, 1) := by decide +kernel
theorem dX9_digest_86 : decode cX9_digest 86 = .ok (.getfield 101, 3) := by decide +kernel
theorem dX9_digest_89 : decode cX9_digest 89 = .ok (.if_icmp .ge 40, 3) := by decide +kernel
theorem dX9_digest_92 : decode cX9_digest 92 = .ok (.iconst 0, 1) := by decide +kernel
theorem dX9_digest_93 : decode cX9_digest 93 = .ok (.istore 4, 2) := by decide +kernel
theorem dX9_digest_95 : decode cX9_digest 95 = .ok (.iload 4, 2) := by decide +kernel
theorem dX9_digest_97 : decode cX9_digest 97 = .ok (.bipush 7, 2) := by decide +kernel
theorem dX9_digest_99 : decode cX9_digest 99 = .ok (.if_icmp .gt 24, 3) := by decide +kernel
theorem dX9_digest_102 : decode cX9_digest 102 = .ok (.lload_n 1, 1) := by decide +kernel
theorem dX9_digest_103 : decode cX9_digest 103 = .ok (.ldc2_w 263, 3) := by decide +kernel
theorem dX9_digest_106 : decode cX9_digest 106 = .ok (.lmul, 1) := by decide +kernel
theorem dX9_digest_107 : decode cX9_digest 107 = .ok (.aload_n 0, 1) := by decide +kernel
theorem dX9_digest_108 : decode cX9_digest 108 = .ok (.iload_n 3, 1) := by decide +kernel
theorem dX9_digest_109 : decode cX9_digest 109 = .ok (.iload 4, 2) := by decide +kernel
theorem dX9_digest_111 : decode cX9_digest 111 = .ok (.invokevirtual 191, 3) := by decide +kernel
theorem dX9_digest_114 : decode cX9_digest 114 = .ok (.i2l, 1) := by decide +kernel
theorem dX9_digest_115 : decode cX9_digest 115 = .ok (.ladd, 1) := by decide +kernel
theorem dX9_digest_116 : decode cX9_digest 116 = .ok (.lstore_n 1, 1) := by decide +kernel
theorem dX9_digest_117 : decode cX9_digest 117 = .ok (.iinc 4 1, 3) := by decide +kernel
theorem dX9_digest_120 : decode cX9_digest 120 = .ok (.goto (-25), 3) := by decide +kernel
theorem dX9_digest_123 : decode cX9_digest 123 = .ok (.iinc 3 1, 3) := by decide +kernel
theorem dX9_digest_126 : decode cX9_digest 126 = .ok (.goto (-42), 3) := by decide +kernel
theorem dX9_digest_129 : decode cX9_digest 129 = .ok (.iconst 0, 1) := by decide +kernel
theorem dX9_digest_130 : decode cX9_digest 130 = .ok (.istore_n 3, 1) := by decide +kernel
theorem dX9_digest_131 : decode cX9_digest 131 = .ok (.iload_n 3, 1) := by decide +kernel
theorem dX9_digest_132 : decode cX9_digest 132 = .ok (.aload_n 0, 1) := by decide +kernel
theorem dX9_digest_133 : decode cX9_digest 133 = .ok (.getfield 104, 3) := by decide +kernel
theorem dX9_digest_136 : decode cX9_digest 136 = .ok (.if_icmp .ge 93, 3) := by decide +kernel
theorem dX9_digest_139 : decode cX9_digest 139 = .ok (.iconst 0, 1) := by decide +kernel
theorem dX9_digest_140 : decode cX9_digest 140 = .ok (.istore 4, 2) := by decide +kernel
theorem dX9_digest_142 : decode cX9_digest 142 = .ok (.iload 4, 2) := by decide +kernel
theorem dX9_digest_144 : decode cX9_digest 144 = .ok (.bipush 7, 2) := by decide +kernel
theorem dX9_digest_146 : decode cX9_digest 146 = .ok (.if_icmp .gt 24, 3) := by decide +kernel
theorem dX9_digest_149 : decode cX9_digest 149 = .ok (.lload_n 1, 1) := by decide +kernel
theorem dX9_digest_150 : decode cX9_digest 150 = .ok (.ldc2_w 263, 3) := by decide +kernel
theorem dX9_digest_153 : decode cX9_digest 153 = .ok (.lmul, 1) := by decide +kernel
theorem dX9_digest_154 : decode cX9_digest 154 = .ok (.aload_n 0, 1) := by decide +kernel
theorem dX9_digest_155 : decode cX9_digest 155 = .ok (.iload_n 3, 1) := by decide +kernel
theorem dX9_digest_156 : decode cX9_digest 156 = .ok (.iload 4, 2) := by decide +kernel
theorem dX9_digest_158 : decode cX9_digest 158 = .ok (.invokevirtual 170, 3) := by decide +kernel
theorem dX9_digest_161 : decode cX9_digest 161 = .ok (.i2l, 1) := by decide +kernel
theorem dX9_digest_162 : decode cX9_digest 162 = .ok (.ladd, 1) := by decide +kernel
theorem dX9_digest_163 : decode cX9_digest 163 = .ok (.lstore_n 1, 1) := by decide +kernel
theorem dX9_digest_164 : decode cX9_digest 164 = .ok (.iinc 4 1, 3) := by decide +kernel
theorem dX9_digest_167 : decode cX9_digest 167 = .ok (.goto (-25), 3) := by decide +kernel
theorem dX9_digest_170 : decode cX9_digest 170 = .ok (.iconst 0, 1) := by decide +kernel
theorem dX9_digest_171 : decode cX9_digest 171 = .ok (.istore 4, 2) := by decide +kernel
theorem dX9_digest_173 : decode cX9_digest 173 = .ok (.iload 4, 2) := by decide +kernel
theorem dX9_digest_175 : decode cX9_digest 175 = .ok (.aload_n 0, 1) := by decide +kernel
theorem dX9_digest_176 : decode cX9_digest 176 = .ok (.getfield 33, 3) := by decide +kernel
theorem dX9_digest_179 : decode cX9_digest 179 = .ok (.iload_n 3, 1) := by decide +kernel
theorem dX9_digest_180 : decode cX9_digest 180 = .ok (.aaload, 1) := by decide +kernel
theorem dX9_digest_181 : decode cX9_digest 181 = .ok (.arraylength, 1) := by decide +kernel
theorem dX9_digest_182 : decode cX9_digest 182 = .ok (.if_icmp .ge 41, 3) := by decide +kernel
theorem dX9_digest_185 : decode cX9_digest 185 = .ok (.lload_n 1, 1) := by decide +kernel
theorem dX9_digest_186 : decode cX9_digest 186 = .ok (.ldc2_w 263, 3) := by decide +kernel
theorem dX9_digest_189 : decode cX9_digest 189 = .ok (.lmul, 1) := by decide +kernel
theorem dX9_digest_190 : decode cX9_digest 190 = .ok (.aload_n 0, 1) := by decide +kernel
theorem dX9_digest_191 : decode cX9_digest 191 = .ok (.getfield 33, 3) := by decide +kernel
theorem dX9_digest_194 : decode cX9_digest 194 = .ok (.iload_n 3, 1) := by decide +kernel
theorem dX9_digest_195 : decode cX9_digest 195 = .ok (.aaload, 1) := by decide +kernel
theorem dX9_digest_196 : decode cX9_digest 196 = .ok (.iload 4, 2) := by decide +kernel
theorem dX9_digest_198 : decode cX9_digest 198 = .ok (.iaload, 1) := by decide +kernel
theorem dX9_digest_199 : decode cX9_digest 199 = .ok (.i2l, 1) := by decide +kernel
theorem dX9_digest_200 : decode cX9_digest 200 = .ok (.ladd, 1) := by decide +kernel
theorem dX9_digest_201 : decode cX9_digest 201 = .ok (.ldc2_w 263, 3) := by decide +kernel
theorem dX9_digest_204 : decode cX9_digest 204 = .ok (.lmul, 1) := by decide +kernel
theorem dX9_digest_205 : decode cX9_digest 205 = .ok (.aload_n 0, 1) := by decide +kernel
theorem dX9_digest_206 : decode cX9_digest 206 = .ok (.getfield 37, 3) := by decide +kernel
theorem dX9_digest_209 : decode cX9_digest 209 = .ok (.iload_n 3, 1) := by decide +kernel
theorem dX9_digest_210 : decode cX9_digest 210 = .ok (.aaload, 1) := by decide +kernel
theorem dX9_digest_211 : decode cX9_digest 211 = .ok (.iload 4, 2) := by decide +kernel
theorem dX9_digest_213 : decode cX9_digest 213 = .ok (.iaload, 1) := by decide +kernel
theorem dX9_digest_214 : decode cX9_digest 214 = .ok (.i2l, 1) := by decide +kernel
theorem dX9_digest_215 : decode cX9_digest 215 = .ok (.ladd, 1) := by decide +kernel
theorem dX9_digest_216 : decode cX9_digest 216 = .ok (.lstore_n 1, 1) := by decide +kernel
theorem dX9_digest_217 : decode cX9_digest 217 = .ok (.iinc 4 1, 3) := by decide +kernel
theorem dX9_digest_220 : decode cX9_digest 220 = .ok (.goto (-47), 3) := by decide +kernel
theorem dX9_digest_223 : decode cX9_digest 223 = .ok (.iinc 3 1, 3) := by decide +kernel
theorem dX9_digest_226 : decode cX9_digest 226 = .ok (.goto (-95), 3) := by decide +kernel
theorem dX9_digest_229 : decode cX9_digest 229 = .ok (.iconst 0, 1) := by decide +kernel
theorem dX9_digest_230 : decode cX9_digest 230 = .ok (.istore_n 3, 1) := by decide +kernel
theorem dX9_digest_231 : decode cX9_digest 231 = .ok (.iload_n 3, 1) := by decide +kernel
theorem dX9_digest_232 : decode cX9_digest 232 = .ok (.aload_n 0, 1) := by decide +kernel
theorem dX9_digest_233 : decode cX9_digest 233 = .ok (.getfield 107, 3) := by decide +kernel
theorem dX9_digest_236 : decode cX9_digest 236 = .ok (.if_icmp .ge 92, 3) := by decide +kernel
theorem dX9_digest_239 : decode cX9_digest 239 = .ok (.iconst 0, 1) := by decide +kernel
theorem dX9_digest_240 : decode cX9_digest 240 = .ok (.istore 4, 2) := by decide +kernel
theorem dX9_digest_242 : decode cX9_digest 242 = .ok (.iload 4, 2) := by decide +kernel
theorem dX9_digest_244 : decode cX9_digest 244 = .ok (.bipush 6, 2) := by decide +kernel
theorem dX9_digest_246 : decode cX9_digest 246 = .ok (.if_icmp .gt 24, 3) := by decide +kernel
theorem dX9_digest_249 : decode cX9_digest 249 = .ok (.lload_n 1, 1) := by decide +kernel
theorem dX9_digest_250 : decode cX9_digest 250 = .ok (.ldc2_w 263, 3) := by decide +kernel
theorem dX9_digest_253 : decode cX9_digest 253 = .ok (.lmul, 1) := by decide +kernel
theorem dX9_digest_254 : decode cX9_digest 254 = .ok (.aload_n 0, 1) := by decide +kernel
theorem dX9_digest_255 : decode cX9_digest 255 = .ok (.iload_n 3, 1) := by decide +kernel
theorem dX9_digest_256 : decode cX9_digest 256 = .ok (.iload 4, 2) := by decide +kernel
theorem dX9_digest_258 : decode cX9_digest 258 = .ok (.invokevirtual 241, 3) := by decide +kernel
theorem dX9_digest_261 : decode cX9_digest 261 = .ok (.i2l, 1) := by decide +kernel
theorem dX9_digest_262 : decode cX9_digest 262 = .ok (.ladd, 1) := by decide +kernel
theorem dX9_digest_263 : decode cX9_digest 263 = .ok (.lstore_n 1, 1) := by decide +kernel
theorem dX9_digest_264 : decode cX9_digest 264 = .ok (.iinc 4 1, 3) := by decide +kernel
theorem dX9_digest_267 : decode cX9_digest 267 = .ok (.goto (-25), 3) := by decide +kernel
theorem dX9_digest_270 : decode cX9_digest 270 = .ok (.iconst 0, 1) := by decide +kernel
theorem dX9_digest_271 : decode cX9_digest 271 = .ok (.istore 4, 2) := by decide +kernel
theorem dX9_digest_273 : decode cX9_digest 273 = .ok (.iload 4, 2) := by decide +kernel
theorem dX9_digest_275 : decode cX9_digest 275 = .ok (.aload_n 0, 1) := by decide +kernel
theorem dX9_digest_276 : decode cX9_digest 276 = .ok (.getfield 55, 3) := by decide +kernel
theorem dX9_digest_279 : decode cX9_digest 279 = .ok (.iload_n 3, 1) := by decide +kernel
theorem dX9_digest_280 : decode cX9_digest 280 = .ok (.iaload, 1) := by decide +kernel
theorem dX9_digest_281 : decode cX9_digest 281 = .ok (.if_icmp .ge 41, 3) := by decide +kernel
theorem dX9_digest_284 : decode cX9_digest 284 = .ok (.iconst 0, 1) := by decide +kernel
theorem dX9_digest_285 : decode cX9_digest 285 = .ok (.istore 5, 2) := by decide +kernel
theorem dX9_digest_287 : decode cX9_digest 287 = .ok (.iload 5, 2) := by decide +kernel
theorem dX9_digest_289 : decode cX9_digest 289 = .ok (.iconst 3, 1) := by decide +kernel
theorem dX9_digest_290 : decode cX9_digest 290 = .ok (.if_icmp .gt 26, 3) := by decide +kernel
theorem dX9_digest_293 : decode cX9_digest 293 = .ok (.lload_n 1, 1) := by decide +kernel
theorem dX9_digest_294 : decode cX9_digest 294 = .ok (.ldc2_w 263, 3) := by decide +kernel
theorem dX9_digest_297 : decode cX9_digest 297 = .ok (.lmul, 1) := by decide +kernel
theorem dX9_digest_298 : decode cX9_digest 298 = .ok (.aload_n 0, 1) := by decide +kernel
theorem dX9_digest_299 : decode cX9_digest 299 = .ok (.iload_n 3, 1) := by decide +kernel
theorem dX9_digest_300 : decode cX9_digest 300 = .ok (.iload 4, 2) := by decide +kernel
theorem dX9_digest_302 : decode cX9_digest 302 = .ok (.iload 5, 2) := by decide +kernel
theorem dX9_digest_304 : decode cX9_digest 304 = .ok (.invokevirtual 235, 3) := by decide +kernel
theorem dX9_digest_307 : decode cX9_digest 307 = .ok (.i2l, 1) := by decide +kernel
theorem dX9_digest_308 : decode cX9_digest 308 = .ok (.ladd, 1) := by decide +kernel
theorem dX9_digest_309 : decode cX9_digest 309 = .ok (.lstore_n 1, 1) := by decide +kernel
theorem dX9_digest_310 : decode cX9_digest 310 = .ok (.iinc 5 1, 3) := by decide +kernel
theorem dX9_digest_313 : decode cX9_digest 313 = .ok (.goto (-26), 3) := by decide +kernel
theorem dX9_digest_316 : decode cX9_digest 316 = .ok (.iinc 4 1, 3) := by decide +kernel
theorem dX9_digest_319 : decode cX9_digest 319 = .ok (.goto (-46), 3) := by decide +kernel
theorem dX9_digest_322 : decode cX9_digest 322 = .ok (.iinc 3 1, 3) := by decide +kernel
theorem dX9_digest_325 : decode cX9_digest 325 = .ok (.goto (-94), 3) := by decide +kernel
theorem dX9_digest_328 : decode cX9_digest 328 = .ok (.iconst 0, 1) := by decide +kernel
theorem dX9_digest_329 : decode cX9_digest 329 = .ok (.istore_n 3, 1) := by decide +kernel
theorem dX9_digest_330 : decode cX9_digest 330 = .ok (.iload_n 3, 1) := by decide +kernel
theorem dX9_digest_331 : decode cX9_digest 331 = .ok (.aload_n 0, 1) := by decide +kernel
theorem dX9_digest_332 : decode cX9_digest 332 = .ok (.getfield 182, 3) := by decide +kernel
theorem dX9_digest_335 : decode cX9_digest 335 = .ok (.if_icmp .ge 39, 3) := by decide +kernel
theorem dX9_digest_338 : decode cX9_digest 338 = .ok (.iconst 0, 1) := by decide +kernel
theorem dX9_digest_339 : decode cX9_digest 339 = .ok (.istore 4, 2) := by decide +kernel
theorem dX9_digest_341 : decode cX9_digest 341 = .ok (.iload 4, 2) := by decide +kernel
theorem dX9_digest_343 : decode cX9_digest 343 = .ok (.iconst 4, 1) := by decide +kernel
theorem dX9_digest_344 : decode cX9_digest 344 = .ok (.if_icmp .gt 24, 3) := by decide +kernel
theorem dX9_digest_347 : decode cX9_digest 347 = .ok (.lload_n 1, 1) := by decide +kernel
theorem dX9_digest_348 : decode cX9_digest 348 = .ok (.ldc2_w 263, 3) := by decide +kernel
theorem dX9_digest_351 : decode cX9_digest 351 = .ok (.lmul, 1) := by decide +kernel
theorem dX9_digest_352 : decode cX9_digest 352 = .ok (.aload_n 0, 1) := by decide +kernel
theorem dX9_digest_353 : decode cX9_digest 353 = .ok (.iload_n 3, 1) := by decide +kernel
theorem dX9_digest_354 : decode cX9_digest 354 = .ok (.iload 4, 2) := by decide +kernel
theorem dX9_digest_356 : decode cX9_digest 356 = .ok (.invokevirtual 247, 3) := by decide +kernel
theorem dX9_digest_359 : decode cX9_digest 359 = .ok (.i2l, 1) := by decide +kernel
theorem dX9_digest_360 : decode cX9_digest 360 = .ok (.ladd, 1) := by decide +kernel
theorem dX9_digest_361 : decode cX9_digest 361 = .ok (.lstore_n 1, 1) := by decide +kernel
theorem dX9_digest_362 : decode cX9_digest 362 = .ok (.iinc 4 1, 3) := by decide +kernel
theorem dX9_digest_365 : decode cX9_digest 365 = .ok (.goto (-24), 3) := by decide +kernel
theorem dX9_digest_368 : decode cX9_digest 368 = .ok (.iinc 3 1, 3) := by decide +kernel
theorem dX9_digest_371 : decode cX9_digest 371 = .ok (.goto (-41), 3) := by decide +kernel
theorem dX9_digest_374 : decode cX9_digest 374 = .ok (.iconst 0, 1) := by decide +kernel
theorem dX9_digest_375 : decode cX9_digest 375 = .ok (.istore_n 3, 1) := by decide +kernel
theorem dX9_digest_376 : decode cX9_digest 376 = .ok (.iload_n 3, 1) := by decide +kernel
theorem dX9_digest_377 : decode cX9_digest 377 = .ok (.aload_n 0, 1) := by decide +kernel
theorem dX9_digest_378 : decode cX9_digest 378 = .ok (.getfield 210, 3) := by decide +kernel
theorem dX9_digest_381 : decode cX9_digest 381 = .ok (.if_icmp .ge 23, 3) := by decide +kernel
theorem dX9_digest_384 : decode cX9_digest 384 = .ok (.lload_n 1, 1) := by decide +kernel
theorem dX9_digest_385 : decode cX9_digest 385 = .ok (.ldc2_w 263, 3) := by decide +kernel
theorem dX9_digest_388 : decode cX9_digest 388 = .ok (.lmul, 1) := by decide +kernel
theorem dX9_digest_389 : decode cX9_digest 389 = .ok (.aload_n 0, 1) := by decide +kernel
theorem dX9_digest_390 : decode cX9_digest 390 = .ok (.getfield 17, 3) := by decide +kernel
theorem dX9_digest_393 : decode cX9_digest 393 = .ok (.iload_n 3, 1) := by decide +kernel
theorem dX9_digest_394 : decode cX9_digest 394 = .ok (.iaload, 1) := by decide +kernel
theorem dX9_digest_395 : decode cX9_digest 395 = .ok (.i2l, 1) := by decide +kernel
theorem dX9_digest_396 : decode cX9_digest 396 = .ok (.ladd, 1) := by decide +kernel
theorem dX9_digest_397 : decode cX9_digest 397 = .ok (.lstore_n 1, 1) := by decide +kernel
theorem dX9_digest_398 : decode cX9_digest 398 = .ok (.iinc 3 1, 3) := by decide +kernel
theorem dX9_digest_401 : decode cX9_digest 401 = .ok (.goto (-25), 3) := by decide +kernel
theorem dX9_digest_404 : decode cX9_digest 404 = .ok (.lload_n 1, 1) := by decide +kernel
theorem dX9_digest_405 : decode cX9_digest 405 = .ok (.lreturn, 1) := by decide +kernel
theorem dJ6_bitCount_0f7a4_0 : decode cJ6_bitCount_0f7a4 0 = .ok (.iload_n 0, 1) := by decide +kernel
theorem dJ6_bitCount_0f7a4_1 : decode cJ6_bitCount_0f7a4 1 = .ok (.iload_n 0, 1) := by decide +kernel
theorem dJ6_bitCount_0f7a4_2 : decode cJ6_bitCount_0f7a4 2 = .ok (.iconst 1, 1) := by decide +kernel
theorem dJ6_bitCount_0f7a4_3 : decode cJ6_bitCount_0f7a4 3 = .ok (.iushr, 1) := by decide +kernel
theorem dJ6_bitCount_0f7a4_4 : decode cJ6_bitCount_0f7a4 4 = .ok (.ldc_w 265, 3) := by decide +kernel
theorem dJ6_bitCount_0f7a4_7 : decode cJ6_bitCount_0f7a4 7 = .ok (.iand, 1) := by decide +kernel
theorem dJ6_bitCount_0f7a4_8 : decode cJ6_bitCount_0f7a4 8 = .ok (.isub, 1) := by decide +kernel
theorem dJ6_bitCount_0f7a4_9 : decode cJ6_bitCount_0f7a4 9 = .ok (.istore_n 0, 1) := by decide +kernel
theorem dJ6_bitCount_0f7a4_10 : decode cJ6_bitCount_0f7a4 10 = .ok (.iload_n 0, 1) := by decide +kernel
theorem dJ6_bitCount_0f7a4_11 : decode cJ6_bitCount_0f7a4 11 = .ok (.ldc_w 266, 3) := by decide +kernel
theorem dJ6_bitCount_0f7a4_14 : decode cJ6_bitCount_0f7a4 14 = .ok (.iand, 1) := by decide +kernel
theorem dJ6_bitCount_0f7a4_15 : decode cJ6_bitCount_0f7a4 15 = .ok (.iload_n 0, 1) := by decide +kernel
theorem dJ6_bitCount_0f7a4_16 : decode cJ6_bitCount_0f7a4 16 = .ok (.iconst 2, 1) := by decide +kernel
theorem dJ6_bitCount_0f7a4_17 : decode cJ6_bitCount_0f7a4 17 = .ok (.iushr, 1) := by decide +kernel
theorem dJ6_bitCount_0f7a4_18 : decode cJ6_bitCount_0f7a4 18 = .ok (.ldc_w 266, 3) := by decide +kernel
theorem dJ6_bitCount_0f7a4_21 : decode cJ6_bitCount_0f7a4 21 = .ok (.iand, 1) := by decide +kernel
theorem dJ6_bitCount_0f7a4_22 : decode cJ6_bitCount_0f7a4 22 = .ok (.iadd, 1) := by decide +kernel
theorem dJ6_bitCount_0f7a4_23 : decode cJ6_bitCount_0f7a4 23 = .ok (.istore_n 0, 1) := by decide +kernel
theorem dJ6_bitCount_0f7a4_24 : decode cJ6_bitCount_0f7a4 24 = .ok (.iload_n 0, 1) := by decide +kernel
theorem dJ6_bitCount_0f7a4_25 : decode cJ6_bitCount_0f7a4 25 = .ok (.iload_n 0, 1) := by decide +kernel
theorem dJ6_bitCount_0f7a4_26 : decode cJ6_bitCount_0f7a4 26 = .ok (.iconst 4, 1) := by decide +kernel
theorem dJ6_bitCount_0f7a4_27 : decode cJ6_bitCount_0f7a4 27 = .ok (.iushr, 1) := by decide +kernel
theorem dJ6_bitCount_0f7a4_28 : decode cJ6_bitCount_0f7a4 28 = .ok (.iadd, 1) := by decide +kernel
theorem dJ6_bitCount_0f7a4_29 : decode cJ6_bitCount_0f7a4 29 = .ok (.ldc_w 267, 3) := by decide +kernel
theorem dJ6_bitCount_0f7a4_32 : decode cJ6_bitCount_0f7a4 32 = .ok (.iand, 1) := by decide +kernel
theorem dJ6_bitCount_0f7a4_33 : decode cJ6_bitCount_0f7a4 33 = .ok (.istore_n 0, 1) := by decide +kernel
theorem dJ6_bitCount_0f7a4_34 : decode cJ6_bitCount_0f7a4 34 = .ok (.iload_n 0, 1) := by decide +kernel
theorem dJ6_bitCount_0f7a4_35 : decode cJ6_bitCount_0f7a4 35 = .ok (.iload_n 0, 1) := by decide +kernel
theorem dJ6_bitCount_0f7a4_36 : decode cJ6_bitCount_0f7a4 36 = .ok (.bipush 8, 2) := by decide +kernel
theorem dJ6_bitCount_0f7a4_38 : decode cJ6_bitCount_0f7a4 38 = .ok (.iushr, 1) := by decide +kernel
theorem dJ6_bitCount_0f7a4_39 : decode cJ6_bitCount_0f7a4 39 = .ok (.iadd, 1) := by decide +kernel
theorem dJ6_bitCount_0f7a4_40 : decode cJ6_bitCount_0f7a4 40 = .ok (.istore_n 0, 1) := by decide +kernel
theorem dJ6_bitCount_0f7a4_41 : decode cJ6_bitCount_0f7a4 41 = .ok (.iload_n 0, 1) := by decide +kernel
theorem dJ6_bitCount_0f7a4_42 : decode cJ6_bitCount_0f7a4 42 = .ok (.iload_n 0, 1) := by decide +kernel
theorem dJ6_bitCount_0f7a4_43 : decode cJ6_bitCount_0f7a4 43 = .ok (.bipush 16, 2) := by decide +kernel
theorem dJ6_bitCount_0f7a4_45 : decode cJ6_bitCount_0f7a4 45 = .ok (.iushr, 1) := by decide +kernel
theorem dJ6_bitCount_0f7a4_46 : decode cJ6_bitCount_0f7a4 46 = .ok (.iadd, 1) := by decide +kernel
theorem dJ6_bitCount_0f7a4_47 : decode cJ6_bitCount_0f7a4 47 = .ok (.istore_n 0, 1) := by decide +kernel
theorem dJ6_bitCount_0f7a4_48 : decode cJ6_bitCount_0f7a4 48 = .ok (.iload_n 0, 1) := by decide +kernel
theorem dJ6_bitCount_0f7a4_49 : decode cJ6_bitCount_0f7a4 49 = .ok (.bipush 63, 2) := by decide +kernel
theorem dJ6_bitCount_0f7a4_51 : decode cJ6_bitCount_0f7a4 51 = .ok (.iand, 1) := by decide +kernel
theorem dJ6_bitCount_0f7a4_52 : decode cJ6_bitCount_0f7a4 52 = .ok (.ireturn, 1) := by decide +kernel
theorem dJ9_max_7cf53_0 : decode cJ9_max_7cf53 0 = .ok (.iload_n 0, 1) := by decide +kernel
theorem dJ9_max_7cf53_1 : decode cJ9_max_7cf53 1 = .ok (.iload_n 1, 1) := by decide +kernel
theorem dJ9_max_7cf53_2 : decode cJ9_max_7cf53 2 = .ok (.if_icmp .lt 7, 3) := by decide +kernel
theorem dJ9_max_7cf53_5 : decode cJ9_max_7cf53 5 = .ok (.iload_n 0, 1) := by decide +kernel
theorem dJ9_max_7cf53_6 : decode cJ9_max_7cf53 6 = .ok (.goto 4, 3) := by decide +kernel
theorem dJ9_max_7cf53_9 : decode cJ9_max_7cf53 9 = .ok (.iload_n 1, 1) := by decide +kernel
theorem dJ9_max_7cf53_10 : decode cJ9_max_7cf53 10 = .ok (.ireturn, 1) := by decide +kernel
theorem dJ9_min_7cf53_0 : decode cJ9_min_7cf53 0 = .ok (.iload_n 0, 1) := by decide +kernel
theorem dJ9_min_7cf53_1 : decode cJ9_min_7cf53 1 = .ok (.iload_n 1, 1) := by decide +kernel
theorem dJ9_min_7cf53_2 : decode cJ9_min_7cf53 2 = .ok (.if_icmp .gt 7, 3) := by decide +kernel
theorem dJ9_min_7cf53_5 : decode cJ9_min_7cf53 5 = .ok (.iload_n 0, 1) := by decide +kernel
theorem dJ9_min_7cf53_6 : decode cJ9_min_7cf53 6 = .ok (.goto 4, 3) := by decide +kernel
theorem dJ9_min_7cf53_9 : decode cJ9_min_7cf53 9 = .ok (.iload_n 1, 1) := by decide +kernel
theorem dJ9_min_7cf53_10 : decode cJ9_min_7cf53 10 = .ok (.ireturn, 1) := by decide +kernel
theorem dJxa1e45_init_da8c8_0 : decode cJxa1e45_init_da8c8 0 = .ok (.aload_n 0, 1) := by decide +kernel
theorem dJxa1e45_init_da8c8_1 : decode cJxa1e45_init_da8c8 1 = .ok (.invokespecial 1, 3) := by decide +kernel
theorem dJxa1e45_init_da8c8_4 : decode cJxa1e45_init_da8c8 4 = .ok (.return_, 1) := by decide +kernel
theorem dJxc12de_init_da8c8_0 : decode cJxc12de_init_da8c8 0 = .ok (.aload_n 0, 1) := by decide +kernel
theorem dJxc12de_init_da8c8_1 : decode cJxc12de_init_da8c8 1 = .ok (.invokespecial 1, 3) := by decide +kernel
theorem dJxc12de_init_da8c8_4 : decode cJxc12de_init_da8c8 4 = .ok (.aload_n 0, 1) := by decide +kernel
theorem dJxc12de_init_da8c8_5 : decode cJxc12de_init_da8c8 5 = .ok (.iconst 0, 1) := by decide +kernel
theorem dJxc12de_init_da8c8_6 : decode cJxc12de_init_da8c8 6 = .ok (.putfield 7, 3) := by decide +kernel
theorem dJxc12de_init_da8c8_9 : decode cJxc12de_init_da8c8 9 = .ok (.return_, 1) := by decide +kernel
theorem dJx4a65c_init_da8c8_0 : decode cJx4a65c_init_da8c8 0 = .ok (.aload_n 0, 1) := by decide +kernel
theorem dJx4a65c_init_da8c8_1 : decode cJx4a65c_init_da8c8 1 = .ok (.invokespecial 1, 3) := by decide +kernel
theorem dJx4a65c_init_da8c8_4 : decode cJx4a65c_init_da8c8 4 = .ok (.aload_n 0, 1) := by decide +kernel
theorem dJx4a65c_init_da8c8_5 : decode cJx4a65c_init_da8c8 5 = .ok (.getstatic 39, 3) := by decide +kernel
theorem dJx4a65c_init_da8c8_8 : decode cJx4a65c_init_da8c8 8 = .ok (.putfield 9, 3) := by decide +kernel
theorem dJx4a65c_init_da8c8_11 : decode cJx4a65c_init_da8c8 11 = .ok (.return_, 1) := by decide +kernel
theorem dJx4a65c_grow_92f84_0 : decode cJx4a65c_grow_92f84 0 = .ok (.aload_n 0, 1) := by decide +kernel
theorem dJx4a65c_grow_92f84_1 : decode cJx4a65c_grow_92f84 1 = .ok (.getfield 9, 3) := by decide +kernel
theorem dJx4a65c_grow_92f84_4 : decode cJx4a65c_grow_92f84 4 = .ok (.arraylength, 1) := by decide +kernel
theorem dJx4a65c_grow_92f84_5 : decode cJx4a65c_grow_92f84 5 = .ok (.istore_n 2, 1) := by decide +kernel
theorem dJx4a65c_grow_92f84_6 : decode cJx4a65c_grow_92f84 6 = .ok (.iload_n 2, 1) := by decide +kernel
theorem dJx4a65c_grow_92f84_7 : decode cJx4a65c_grow_92f84 7 = .ok (.ifCond .gt 13, 3) := by decide +kernel
theorem dJx4a65c_grow_92f84_10 : decode cJx4a65c_grow_92f84 10 = .ok (.aload_n 0, 1) := by decide +kernel
theorem dJx4a65c_grow_92f84_11 : decode cJx4a65c_grow_92f84 11 = .ok (.getfield 9, 3) := by decide +kernel
theorem dJx4a65c_grow_92f84_14 : decode cJx4a65c_grow_92f84 14 = .ok (.getstatic 39, 3) := by decide +kernel
theorem dJx4a65c_grow_92f84_17 : decode cJx4a65c_grow_92f84 17 = .ok (.if_acmp .eq 28, 3) := by decide +kernel
theorem dJx4a65c_grow_92f84_20 : decode cJx4a65c_grow_92f84 20 = .ok (.iload_n 2, 1) := by decide +kernel
theorem dJx4a65c_grow_92f84_21 : decode cJx4a65c_grow_92f84 21 = .ok (.iload_n 1, 1) := by decide +kernel
theorem dJx4a65c_grow_92f84_22 : decode cJx4a65c_grow_92f84 22 = .ok (.iload_n 2, 1) := by decide +kernel
theorem dJx4a65c_grow_92f84_23 : decode cJx4a65c_grow_92f84 23 = .ok (.isub, 1) := by decide +kernel
theorem dJx4a65c_grow_92f84_24 : decode cJx4a65c_grow_92f84 24 = .ok (.iload_n 2, 1) := by decide +kernel
theorem dJx4a65c_grow_92f84_25 : decode cJx4a65c_grow_92f84 25 = .ok (.iconst 1, 1) := by decide +kernel
theorem dJx4a65c_grow_92f84_26 : decode cJx4a65c_grow_92f84 26 = .ok (.ishr, 1) := by decide +kernel
theorem dJx4a65c_grow_92f84_27 : decode cJx4a65c_grow_92f84 27 = .ok (.invokestatic 73, 3) := by decide +kernel
theorem dJx4a65c_grow_92f84_30 : decode cJx4a65c_grow_92f84 30 = .ok (.istore_n 3, 1) := by decide +kernel
theorem dJx4a65c_grow_92f84_31 : decode cJx4a65c_grow_92f84 31 = .ok (.aload_n 0, 1) := by decide +kernel
theorem dJx4a65c_grow_92f84_32 : decode cJx4a65c_grow_92f84 32 = .ok (.aload_n 0, 1) := by decide +kernel
theorem dJx4a65c_grow_92f84_33 : decode cJx4a65c_grow_92f84 33 = .ok (.getfield 9, 3) := by decide +kernel
theorem dJx4a65c_grow_92f84_36 : decode cJx4a65c_grow_92f84 36 = .ok (.iload_n 3, 1) := by decide +kernel
theorem dJx4a65c_grow_92f84_37 : decode cJx4a65c_grow_92f84 37 = .ok (.invokestatic 66, 3) := by decide +kernel
theorem dJx4a65c_grow_92f84_40 : decode cJx4a65c_grow_92f84 40 = .ok (.dup_x1, 1) := by decide +kernel
theorem dJx4a65c_grow_92f84_41 : decode cJx4a65c_grow_92f84 41 = .ok (.putfield 9, 3) := by decide +kernel
theorem dJx4a65c_grow_92f84_44 : decode cJx4a65c_grow_92f84 44 = .ok (.areturn, 1) := by decide +kernel
theorem dJx4a65c_grow_92f84_45 : decode cJx4a65c_grow_92f84 45 = .ok (.aload_n 0, 1) := by decide +kernel
theorem dJx4a65c_grow_92f84_46 : decode cJx4a65c_grow_92f84 46 = .ok (.bipush 10, 2) := by decide +kernel
theorem dJx4a65c_grow_92f84_48 : decode cJx4a65c_grow_92f84 48 = .ok (.iload_n 1, 1) := by decide +kernel
theorem dJx4a65c_grow_92f84_49 : decode cJx4a65c_grow_92f84 49 = .ok (.invokestatic 79, 3) := by decide +kernel
theorem dJx4a65c_grow_92f84_52 : decode cJx4a65c_grow_92f84 52 = .ok (.anewarray 7, 3) := by decide +kernel
theorem dJx4a65c_grow_92f84_55 : decode cJx4a65c_grow_92f84 55 = .ok (.dup_x1, 1) := by decide +kernel
theorem dJx4a65c_grow_92f84_56 : decode cJx4a65c_grow_92f84 56 = .ok (.putfield 9, 3) := by decide +kernel
theorem dJx4a65c_grow_92f84_59 : decode cJx4a65c_grow_92f84 59 = .ok (.areturn, 1) := by decide +kernel
theorem dJx4a65c_grow_d5877_0 : decode cJx4a65c_grow_d5877 0 = .ok (.aload_n 0, 1) := by decide +kernel
theorem dJx4a65c_grow_d5877_1 : decode cJx4a65c_grow_d5877 1 = .ok (.aload_n 0, 1) := by decide +kernel
theorem dJx4a65c_grow_d5877_2 : decode cJx4a65c_grow_d5877 2 = .ok (.getfield 48, 3) := by decide +kernel
theorem dJx4a65c_grow_d5877_5 : decode cJx4a65c_grow_d5877 5 = .ok (.iconst 1, 1) := by decide +kernel
theorem dJx4a65c_grow_d5877_6 : decode cJx4a65c_grow_d5877 6 = .ok (.iadd, 1) := by decide +kernel
theorem dJx4a65c_grow_d5877_7 : decode cJx4a65c_grow_d5877 7 = .ok (.invokevirtual 69, 3) := by decide +kernel
theorem dJx4a65c_grow_d5877_10 : decode cJx4a65c_grow_d5877 10 = .ok (.areturn, 1) := by decide +kernel
theorem dJx4a65c_size_8abf5_0 : decode cJx4a65c_size_8abf5 0 = .ok (.aload_n 0, 1) := by decide +kernel
theorem dJx4a65c_size_8abf5_1 : decode cJx4a65c_size_8abf5 1 = .ok (.getfield 48, 3) := by decide +kernel
theorem dJx4a65c_size_8abf5_4 : decode cJx4a65c_size_8abf5 4 = .ok (.ireturn, 1) := by decide +kernel
theorem dJx4a65c_elementData_915e3_0 : decode cJx4a65c_elementData_915e3 0 = .ok (.aload_n 0, 1) := by decide +kernel
theorem dJx4a65c_elementData_915e3_1 : decode cJx4a65c_elementData_915e3 1 = .ok (.getfield 9, 3) := by decide +kernel
theorem dJx4a65c_elementData_915e3_4 : decode cJx4a65c_elementData_915e3 4 = .ok (.iload_n 1, 1) := by decide +kernel
theorem dJx4a65c_elementData_915e3_5 : decode cJx4a65c_elementData_915e3 5 = .ok (.aaload, 1) := by decide +kernel
theorem dJx4a65c_elementData_915e3_6 : decode cJx4a65c_elementData_915e3 6 = .ok (.areturn, 1) := by decide +kernel
theorem dJx4a65c_get_915e3_0 : decode cJx4a65c_get_915e3 0 = .ok (.iload_n 1, 1) := by decide +kernel
theorem dJx4a65c_get_915e3_1 : decode cJx4a65c_get_915e3 1 = .ok (.aload_n 0, 1) := by decide +kernel
theorem dJx4a65c_get_915e3_2 : decode cJx4a65c_get_915e3 2 = .ok (.getfield 48, 3) := by decide +kernel
theorem dJx4a65c_get_915e3_5 : decode cJx4a65c_get_915e3 5 = .ok (.invokestatic 118, 3) := by decide +kernel
theorem dJx4a65c_get_915e3_8 : decode cJx4a65c_get_915e3 8 = .ok (.pop, 1) := by decide +kernel
theorem dJx4a65c_get_915e3_9 : decode cJx4a65c_get_915e3 9 = .ok (.aload_n 0, 1) := by decide +kernel
theorem dJx4a65c_get_915e3_10 : decode cJx4a65c_get_915e3 10 = .ok (.iload_n 1, 1) := by decide +kernel
theorem dJx4a65c_get_915e3_11 : decode cJx4a65c_get_915e3 11 = .ok (.invokevirtual 123, 3) := by decide +kernel
theorem dJx4a65c_get_915e3_14 : decode cJx4a65c_get_915e3 14 = .ok (.areturn, 1) := by decide +kernel
theorem dJx4a65c_add_72be8_0 : decode cJx4a65c_add_72be8 0 = .ok (.iload_n 3, 1) := by decide +kernel
theorem dJx4a65c_add_72be8_1 : decode cJx4a65c_add_72be8 1 = .ok (.aload_n 2, 1) := by decide +kernel
theorem dJx4a65c_add_72be8_2 : decode cJx4a65c_add_72be8 2 = .ok (.arraylength, 1) := by decide +kernel
theorem dJx4a65c_add_72be8_3 : decode cJx4a65c_add_72be8 3 = .ok (.if_icmp .ne 8, 3) := by decide +kernel
theorem dJx4a65c_add_72be8_6 : decode cJx4a65c_add_72be8 6 = .ok (.aload_n 0, 1) := by decide +kernel
theorem dJx4a65c_add_72be8_7 : decode cJx4a65c_add_72be8 7 = .ok (.invokevirtual 129, 3) := by decide +kernel
theorem dJx4a65c_add_72be8_10 : decode cJx4a65c_add_72be8 10 = .ok (.astore_n 2, 1) := by decide +kernel
theorem dJx4a65c_add_72be8_11 : decode cJx4a65c_add_72be8 11 = .ok (.aload_n 2, 1) := by decide +kernel
theorem dJx4a65c_add_72be8_12 : decode cJx4a65c_add_72be8 12 = .ok (.iload_n 3, 1) := by decide +kernel
theorem dJx4a65c_add_72be8_13 : decode cJx4a65c_add_72be8 13 = .ok (.aload_n 1, 1) := by decide +kernel
theorem dJx4a65c_add_72be8_14 : decode cJx4a65c_add_72be8 14 = .ok (.aastore, 1) := by decide +kernel
theorem dJx4a65c_add_72be8_15 : decode cJx4a65c_add_72be8 15 = .ok (.aload_n 0, 1) := by decide +kernel
theorem dJx4a65c_add_72be8_16 : decode cJx4a65c_add_72be8 16 = .ok (.iload_n 3, 1) := by decide +kernel
theorem dJx4a65c_add_72be8_17 : decode cJx4a65c_add_72be8 17 = .ok (.iconst 1, 1) := by decide +kernel
theorem dJx4a65c_add_72be8_18 : decode cJx4a65c_add_72be8 18 = .ok (.iadd, 1) := by decide +kernel
theorem dJx4a65c_add_72be8_19 : decode cJx4a65c_add_72be8 19 = .ok (.putfield 48, 3) := by decide +kernel
theorem dJx4a65c_add_72be8_22 : decode cJx4a65c_add_72be8 22 = .ok (.return_, 1) := by decide +kernel
theorem dJx4a65c_add_9ea2d_0 : decode cJx4a65c_add_9ea2d 0 = .ok (.aload_n 0, 1) := by decide +kernel
theorem dJx4a65c_add_9ea2d_1 : decode cJx4a65c_add_9ea2d 1 = .ok (.dup, 1) := by decide +kernel
theorem dJx4a65c_add_9ea2d_2 : decode cJx4a65c_add_9ea2d 2 = .ok (.getfield 63, 3) := by decide +kernel
theorem dJx4a65c_add_9ea2d_5 : decode cJx4a65c_add_9ea2d 5 = .ok (.iconst 1, 1) := by decide +kernel
theorem dJx4a65c_add_9ea2d_6 : decode cJx4a65c_add_9ea2d 6 = .ok (.iadd, 1) := by decide +kernel
theorem dJx4a65c_add_9ea2d_7 : decode cJx4a65c_add_9ea2d 7 = .ok (.putfield 63, 3) := by decide +kernel
theorem dJx4a65c_add_9ea2d_10 : decode cJx4a65c_add_9ea2d 10 = .ok (.aload_n 0, 1) := by decide +kernel
theorem dJx4a65c_add_9ea2d_11 : decode cJx4a65c_add_9ea2d 11 = .ok (.aload_n 1, 1) := by decide +kernel
theorem dJx4a65c_add_9ea2d_12 : decode cJx4a65c_add_9ea2d 12 = .ok (.aload_n 0, 1) := by decide +kernel
theorem dJx4a65c_add_9ea2d_13 : decode cJx4a65c_add_9ea2d 13 = .ok (.getfield 9, 3) := by decide +kernel
theorem dJx4a65c_add_9ea2d_16 : decode cJx4a65c_add_9ea2d 16 = .ok (.aload_n 0, 1) := by decide +kernel
theorem dJx4a65c_add_9ea2d_17 : decode cJx4a65c_add_9ea2d 17 = .ok (.getfield 48, 3) := by decide +kernel
theorem dJx4a65c_add_9ea2d_20 : decode cJx4a65c_add_9ea2d 20 = .ok (.invokevirtual 131, 3) := by decide +kernel
theorem dJx4a65c_add_9ea2d_23 : decode cJx4a65c_add_9ea2d 23 = .ok (.iconst 1, 1) := by decide +kernel
theorem dJx4a65c_add_9ea2d_24 : decode cJx4a65c_add_9ea2d 24 = .ok (.ireturn, 1) := by decide +kernel
theorem dJ7_copyOf_1904c_0 : decode cJ7_copyOf_1904c 0 = .ok (.aload_n 0, 1) := by decide +kernel
theorem dJ7_copyOf_1904c_1 : decode cJ7_copyOf_1904c 1 = .ok (.iload_n 1, 1) := by decide +kernel
theorem dJ7_copyOf_1904c_2 : decode cJ7_copyOf_1904c 2 = .ok (.aload_n 0, 1) := by decide +kernel
theorem dJ7_copyOf_1904c_3 : decode cJ7_copyOf_1904c 3 = .ok (.invokevirtual 86, 3) := by decide +kernel
theorem dJ7_copyOf_1904c_6 : decode cJ7_copyOf_1904c 6 = .ok (.invokestatic 300, 3) := by decide +kernel
theorem dJ7_copyOf_1904c_9 : decode cJ7_copyOf_1904c 9 = .ok (.areturn, 1) := by decide +kernel
theorem dJ7_copyOf_6403c_0 : decode cJ7_copyOf_6403c 0 = .ok (.aload_n 2, 1) := by decide +kernel
theorem dJ7_copyOf_6403c_1 : decode cJ7_copyOf_6403c 1 = .ok (.ldc 110, 2) := by decide +kernel
theorem dJ7_copyOf_6403c_3 : decode cJ7_copyOf_6403c 3 = .ok (.if_acmp .ne 10, 3) := by decide +kernel
theorem dJ7_copyOf_6403c_6 : decode cJ7_copyOf_6403c 6 = .ok (.iload_n 1, 1) := by decide +kernel
theorem dJ7_copyOf_6403c_7 : decode cJ7_copyOf_6403c 7 = .ok (.anewarray 2, 3) := by decide +kernel
theorem dJ7_copyOf_6403c_10 : decode cJ7_copyOf_6403c 10 = .ok (.goto 14, 3) := by decide +kernel
theorem dJ7_copyOf_6403c_13 : decode cJ7_copyOf_6403c 13 = .ok (.aload_n 2, 1) := by decide +kernel
theorem dJ7_copyOf_6403c_14 : decode cJ7_copyOf_6403c 14 = .ok (.invokevirtual 90, 3) := by decide +kernel
theorem dJ7_copyOf_6403c_17 : decode cJ7_copyOf_6403c 17 = .ok (.iload_n 1, 1) := by decide +kernel
theorem dJ7_copyOf_6403c_18 : decode cJ7_copyOf_6403c 18 = .ok (.invokestatic 95, 3) := by decide +kernel
theorem dJ7_copyOf_6403c_21 : decode cJ7_copyOf_6403c 21 = .ok (.checkcast 110, 3) := by decide +kernel
theorem dJ7_copyOf_6403c_24 : decode cJ7_copyOf_6403c 24 = .ok (.astore_n 3, 1) := by decide +kernel
theorem dJ7_copyOf_6403c_25 : decode cJ7_copyOf_6403c 25 = .ok (.aload_n 0, 1) := by decide +kernel
theorem dJ7_copyOf_6403c_26 : decode cJ7_copyOf_6403c 26 = .ok (.iconst 0, 1) := by decide +kernel
theorem dJ7_copyOf_6403c_27 : decode cJ7_copyOf_6403c 27 = .ok (.aload_n 3, 1) := by decide +kernel
theorem dJ7_copyOf_6403c_28 : decode cJ7_copyOf_6403c 28 = .ok (.iconst 0, 1) := by decide +kernel
theorem dJ7_copyOf_6403c_29 : decode cJ7_copyOf_6403c 29 = .ok (.aload_n 0, 1) := by decide +kernel
theorem dJ7_copyOf_6403c_30 : decode cJ7_copyOf_6403c 30 = .ok (.arraylength, 1) := by decide +kernel
theorem dJ7_copyOf_6403c_31 : decode cJ7_copyOf_6403c 31 = .ok (.iload_n 1, 1) := by decide +kernel
theorem dJ7_copyOf_6403c_32 : decode cJ7_copyOf_6403c 32 = .ok (.invokestatic 304, 3) := by decide +kernel
theorem dJ7_copyOf_6403c_35 : decode cJ7_copyOf_6403c 35 = .ok (.invokestatic 150, 3) := by decide +kernel
theorem dJ7_copyOf_6403c_38 : decode cJ7_copyOf_6403c 38 = .ok (.aload_n 3, 1) := by decide +kernel
theorem dJ7_copyOf_6403c_39 : decode cJ7_copyOf_6403c 39 = .ok (.areturn, 1) := by decide +kernel
theorem dJ7_copyOf_9075b_0 : decode cJ7_copyOf_9075b 0 = .ok (.iload_n 1, 1) := by decide +kernel
theorem dJ7_copyOf_9075b_1 : decode cJ7_copyOf_9075b 1 = .ok (.aload_n 0, 1) := by decide +kernel
theorem dJ7_copyOf_9075b_2 : decode cJ7_copyOf_9075b 2 = .ok (.arraylength, 1) := by decide +kernel
theorem dJ7_copyOf_9075b_3 : decode cJ7_copyOf_9075b 3 = .ok (.if_icmp .ne 11, 3) := by decide +kernel
theorem dJ7_copyOf_9075b_6 : decode cJ7_copyOf_9075b 6 = .ok (.aload_n 0, 1) := by decide +kernel
theorem dJ7_copyOf_9075b_7 : decode cJ7_copyOf_9075b 7 = .ok (.invokevirtual 310, 3) := by decide +kernel
theorem dJ7_copyOf_9075b_10 : decode cJ7_copyOf_9075b 10 = .ok (.checkcast 311, 3) := by decide +kernel
theorem dJ7_copyOf_9075b_13 : decode cJ7_copyOf_9075b 13 = .ok (.areturn, 1) := by decide +kernel
theorem dJ7_copyOf_9075b_14 : decode cJ7_copyOf_9075b 14 = .ok (.iload_n 1, 1) := by decide +kernel
theorem dJ7_copyOf_9075b_15 : decode cJ7_copyOf_9075b 15 = .ok (.newarray .byte, 2) := by decide +kernel
theorem dJ7_copyOf_9075b_17 : decode cJ7_copyOf_9075b 17 = .ok (.astore_n 2, 1) := by decide +kernel
theorem dJ7_copyOf_9075b_18 : decode cJ7_copyOf_9075b 18 = .ok (.aload_n 0, 1) := by decide +kernel
theorem dJ7_copyOf_9075b_19 : decode cJ7_copyOf_9075b 19 = .ok (.iconst 0, 1) := by decide +kernel
theorem dJ7_copyOf_9075b_20 : decode cJ7_copyOf_9075b 20 = .ok (.aload_n 2, 1) := by decide +kernel
theorem dJ7_copyOf_9075b_21 : decode cJ7_copyOf_9075b 21 = .ok (.iconst 0, 1) := by decide +kernel
theorem dJ7_copyOf_9075b_22 : decode cJ7_copyOf_9075b 22 = .ok (.aload_n 0, 1) := by decide +kernel
theorem dJ7_copyOf_9075b_23 : decode cJ7_copyOf_9075b 23 = .ok (.arraylength, 1) := by decide +kernel
theorem dJ7_copyOf_9075b_24 : decode cJ7_copyOf_9075b 24 = .ok (.iload_n 1, 1) := by decide +kernel
theorem dJ7_copyOf_9075b_25 : decode cJ7_copyOf_9075b 25 = .ok (.invokestatic 304, 3) := by decide +kernel
theorem dJ7_copyOf_9075b_28 : decode cJ7_copyOf_9075b 28 = .ok (.invokestatic 150, 3) := by decide +kernel
theorem dJ7_copyOf_9075b_31 : decode cJ7_copyOf_9075b 31 = .ok (.aload_n 2, 1) := by decide +kernel
theorem dJ7_copyOf_9075b_32 : decode cJ7_copyOf_9075b 32 = .ok (.areturn, 1) := by decide +kernel
theorem dJ7_copyOf_59c91_0 : decode cJ7_copyOf_59c91 0 = .ok (.iload_n 1, 1) := by decide +kernel
theorem dJ7_copyOf_59c91_1 : decode cJ7_copyOf_59c91 1 = .ok (.aload_n 0, 1) := by decide +kernel
theorem dJ7_copyOf_59c91_2 : decode cJ7_copyOf_59c91 2 = .ok (.arraylength, 1) := by decide +kernel
theorem dJ7_copyOf_59c91_3 : decode cJ7_copyOf_59c91 3 = .ok (.if_icmp .ne 11, 3) := by decide +kernel
theorem dJ7_copyOf_59c91_6 : decode cJ7_copyOf_59c91 6 = .ok (.aload_n 0, 1) := by decide +kernel
theorem dJ7_copyOf_59c91_7 : decode cJ7_copyOf_59c91 7 = .ok (.invokevirtual 316, 3) := by decide +kernel
theorem dJ7_copyOf_59c91_10 : decode cJ7_copyOf_59c91 10 = .ok (.checkcast 317, 3) := by decide +kernel
theorem dJ7_copyOf_59c91_13 : decode cJ7_copyOf_59c91 13 = .ok (.areturn, 1) := by decide +kernel
theorem dJ7_copyOf_59c91_14 : decode cJ7_copyOf_59c91 14 = .ok (.iload_n 1, 1) := by decide +kernel
theorem dJ7_copyOf_59c91_15 : decode cJ7_copyOf_59c91 15 = .ok (.newarray .int, 2) := by decide +kernel
theorem dJ7_copyOf_59c91_17 : decode cJ7_copyOf_59c91 17 = .ok (.astore_n 2, 1) := by decide +kernel
theorem dJ7_copyOf_59c91_18 : decode cJ7_copyOf_59c91 18 = .ok (.aload_n 0, 1) := by decide +kernel
theorem dJ7_copyOf_59c91_19 : decode cJ7_copyOf_59c91 19 = .ok (.iconst 0, 1) := by decide +kernel
theorem dJ7_copyOf_59c91_20 : decode cJ7_copyOf_59c91 20 = .ok (.aload_n 2, 1) := by decide +kernel
theorem dJ7_copyOf_59c91_21 : decode cJ7_copyOf_59c91 21 = .ok (.iconst 0, 1) := by decide +kernel
theorem dJ7_copyOf_59c91_22 : decode cJ7_copyOf_59c91 22 = .ok (.aload_n 0, 1) := by decide +kernel
theorem dJ7_copyOf_59c91_23 : decode cJ7_copyOf_59c91 23 = .ok (.arraylength, 1) := by decide +kernel
theorem dJ7_copyOf_59c91_24 : decode cJ7_copyOf_59c91 24 = .ok (.iload_n 1, 1) := by decide +kernel
theorem dJ7_copyOf_59c91_25 : decode cJ7_copyOf_59c91 25 = .ok (.invokestatic 304, 3) := by decide +kernel
theorem dJ7_copyOf_59c91_28 : decode cJ7_copyOf_59c91 28 = .ok (.invokestatic 150, 3) := by decide +kernel
theorem dJ7_copyOf_59c91_31 : decode cJ7_copyOf_59c91 31 = .ok (.aload_n 2, 1) := by decide +kernel
theorem dJ7_copyOf_59c91_32 : decode cJ7_copyOf_59c91 32 = .ok (.areturn, 1) := by decide +kernel
theorem dJ15_checkIndex_7cf53_0 : decode cJ15_checkIndex_7cf53 0 = .ok (.iload_n 0, 1) := by decide +kernel
theorem dJ15_checkIndex_7cf53_1 : decode cJ15_checkIndex_7cf53 1 = .ok (.iload_n 1, 1) := by decide +kernel
theorem dJ15_checkIndex_7cf53_2 : decode cJ15_checkIndex_7cf53 2 = .ok (.aconst_null, 1) := by decide +kernel
theorem dJ15_checkIndex_7cf53_3 : decode cJ15_checkIndex_7cf53 3 = .ok (.invokestatic 105, 3) := by decide +kernel
theorem dJ15_checkIndex_7cf53_6 : decode cJ15_checkIndex_7cf53 6 = .ok (.ireturn, 1) := by decide +kernel
theorem dJ8_newLength_cabcc_0 : decode cJ8_newLength_cabcc 0 = .ok (.iload_n 0, 1) := by decide +kernel
theorem dJ8_newLength_cabcc_1 : decode cJ8_newLength_cabcc 1 = .ok (.iload_n 1, 1) := by decide +kernel
theorem dJ8_newLength_cabcc_2 : decode cJ8_newLength_cabcc 2 = .ok (.iload_n 2, 1) := by decide +kernel
theorem dJ8_newLength_cabcc_3 : decode cJ8_newLength_cabcc 3 = .ok (.invokestatic 194, 3) := by decide +kernel
theorem dJ8_newLength_cabcc_6 : decode cJ8_newLength_cabcc 6 = .ok (.iadd, 1) := by decide +kernel
theorem dJ8_newLength_cabcc_7 : decode cJ8_newLength_cabcc 7 = .ok (.istore_n 3, 1) := by decide +kernel
theorem dJ8_newLength_cabcc_8 : decode cJ8_newLength_cabcc 8 = .ok (.iconst 0, 1) := by decide +kernel
theorem dJ8_newLength_cabcc_9 : decode cJ8_newLength_cabcc 9 = .ok (.iload_n 3, 1) := by decide +kernel
theorem dJ8_newLength_cabcc_10 : decode cJ8_newLength_cabcc 10 = .ok (.if_icmp .ge 11, 3) := by decide +kernel
theorem dJ8_newLength_cabcc_13 : decode cJ8_newLength_cabcc 13 = .ok (.iload_n 3, 1) := by decide +kernel
theorem dJ8_newLength_cabcc_14 : decode cJ8_newLength_cabcc 14 = .ok (.ldc 200, 2) := by decide +kernel
theorem dJ8_newLength_cabcc_16 : decode cJ8_newLength_cabcc 16 = .ok (.if_icmp .gt 5, 3) := by decide +kernel
theorem dJ8_newLength_cabcc_19 : decode cJ8_newLength_cabcc 19 = .ok (.iload_n 3, 1) := by decide +kernel
theorem dJ8_newLength_cabcc_20 : decode cJ8_newLength_cabcc 20 = .ok (.ireturn, 1) := by decide +kernel
theorem dJ8_newLength_cabcc_21 : decode cJ8_newLength_cabcc 21 = .ok (.iload_n 0, 1) := by decide +kernel
theorem dJ8_newLength_cabcc_22 : decode cJ8_newLength_cabcc 22 = .ok (.iload_n 1, 1) := by decide +kernel
theorem dJ8_newLength_cabcc_23 : decode cJ8_newLength_cabcc 23 = .ok (.invokestatic 201, 3) := by decide +kernel
theorem dJ8_newLength_cabcc_26 : decode cJ8_newLength_cabcc 26 = .ok (.ireturn, 1) := by decide +kernel
theorem dJ8_hugeLength_7cf53_0 : decode cJ8_hugeLength_7cf53 0 = .ok (.iload_n 0, 1) := by decide +kernel
theorem dJ8_hugeLength_7cf53_1 : decode cJ8_hugeLength_7cf53 1 = .ok (.iload_n 1, 1) := by decide +kernel
theorem dJ8_hugeLength_7cf53_2 : decode cJ8_hugeLength_7cf53 2 = .ok (.iadd, 1) := by decide +kernel
theorem dJ8_hugeLength_7cf53_3 : decode cJ8_hugeLength_7cf53 3 = .ok (.istore_n 2, 1) := by decide +kernel
theorem dJ8_hugeLength_7cf53_4 : decode cJ8_hugeLength_7cf53 4 = .ok (.iload_n 2, 1) := by decide +kernel
theorem dJ8_hugeLength_7cf53_5 : decode cJ8_hugeLength_7cf53 5 = .ok (.ifCond .ge 44, 3) := by decide +kernel
theorem dJ8_hugeLength_7cf53_8 : decode cJ8_hugeLength_7cf53 8 = .ok (.new 204, 3) := by decide +kernel
theorem dJ8_hugeLength_7cf53_11 : decode cJ8_hugeLength_7cf53 11 = .ok (.dup, 1) := by decide +kernel
theorem dJ8_hugeLength_7cf53_12 : decode cJ8_hugeLength_7cf53 12 = .ok (.new 89, 3) := by decide +kernel
theorem dJ8_hugeLength_7cf53_15 : decode cJ8_hugeLength_7cf53 15 = .ok (.dup, 1) := by decide +kernel
theorem dJ8_hugeLength_7cf53_16 : decode cJ8_hugeLength_7cf53 16 = .ok (.invokespecial 91, 3) := by decide +kernel
theorem dJ8_hugeLength_7cf53_19 : decode cJ8_hugeLength_7cf53 19 = .ok (.ldc 206, 2) := by decide +kernel
theorem dJ8_hugeLength_7cf53_21 : decode cJ8_hugeLength_7cf53 21 = .ok (.invokevirtual 94, 3) := by decide +kernel
theorem dJ8_hugeLength_7cf53_24 : decode cJ8_hugeLength_7cf53 24 = .ok (.iload_n 0, 1) := by decide +kernel
theorem dJ8_hugeLength_7cf53_25 : decode cJ8_hugeLength_7cf53 25 = .ok (.invokevirtual 98, 3) := by decide +kernel
theorem dJ8_hugeLength_7cf53_28 : decode cJ8_hugeLength_7cf53 28 = .ok (.ldc 208, 2) := by decide +kernel
theorem dJ8_hugeLength_7cf53_30 : decode cJ8_hugeLength_7cf53 30 = .ok (.invokevirtual 94, 3) := by decide +kernel
theorem dJ8_hugeLength_7cf53_33 : decode cJ8_hugeLength_7cf53 33 = .ok (.iload_n 1, 1) := by decide +kernel
theorem dJ8_hugeLength_7cf53_34 : decode cJ8_hugeLength_7cf53 34 = .ok (.invokevirtual 98, 3) := by decide +kernel
