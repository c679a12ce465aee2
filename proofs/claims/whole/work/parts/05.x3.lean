set_option maxRecDepth 4000 in
theorem ml_L_117 : Cond.methodLink RL 117 yX7_init ∈ gWords := g_t1 29 rfl rfl
set_option maxRecDepth 4000 in
theorem ml_X7_3 : Cond.methodLink RX7 3 objectInit ∈ gWords := g_t1 32 rfl rfl
set_option maxRecDepth 4000 in
theorem ml_X7_11 : Cond.methodLink RX7 11 yJx4a65c_init_da8c8 ∈ gWords := g_t1 37 rfl rfl
set_option maxRecDepth 4000 in
theorem ml_Jx4a65c_1 : Cond.methodLink RJx4a65c 1 yJxc12de_init_da8c8 ∈ gWords := g_t1 40 rfl rfl
set_option maxRecDepth 4000 in
theorem ml_Jxc12de_1 : Cond.methodLink RJxc12de 1 yJxa1e45_init_da8c8 ∈ gWords := g_t1 43 rfl rfl
set_option maxRecDepth 4000 in
theorem ml_Jxa1e45_1 : Cond.methodLink RJxa1e45 1 objectInit ∈ gWords := g_t1 46 rfl rfl
set_option maxRecDepth 4000 in
theorem ml_X2_3 : Cond.methodLink RX2 3 objectInit ∈ gWords := g_t1 66 rfl rfl
set_option maxRecDepth 4000 in
theorem ml_L_138 : Cond.methodLink RL 138 yX7_errorAt ∈ gWords := g_t1 155 rfl rfl
set_option maxRecDepth 4000 in
theorem ml_L_232 : Cond.methodLink RL 232 yX7_plain ∈ gWords := g_t1 159 rfl rfl
set_option maxRecDepth 4000 in
theorem ml_X7_80 : Cond.methodLink RX7 80 yJx4a65c_size_8abf5 ∈ gWords := g_t1 163 rfl rfl
set_option maxRecDepth 4000 in
theorem ml_X7_300 : Cond.methodLink RX7 300 yJx4a65c_get_915e3 ∈ gWords := g_t1 167 rfl rfl
set_option maxRecDepth 4000 in
theorem ml_Jx4a65c_118 : Cond.methodLink RJx4a65c 118 yJ15_checkIndex_7cf53 ∈ gWords := g_t1 171 rfl rfl
set_option maxRecDepth 4000 in
theorem ml_J15_105 : Cond.methodLink RJ15 105 yJ3_checkIndex_8e157 ∈ gWords := g_t1 174 rfl rfl
set_option maxRecDepth 4000 in
theorem ml_Jx4a65c_123 : Cond.methodLink RJx4a65c 123 yJx4a65c_elementData_915e3 ∈ gWords := g_t1 177 rfl rfl
set_option maxRecDepth 4000 in
theorem ml_X7_374 : Cond.methodLink RX7 374 yX1_countVeiled ∈ gWords := g_t1 182 rfl rfl
set_option maxRecDepth 4000 in
theorem ml_L_237 : Cond.methodLink RL 237 yX7_digest ∈ gWords := g_t1 186 rfl rfl
set_option maxRecDepth 4000 in
theorem ml_X7_363 : Cond.methodLink RX7 363 yX7_tellCount ∈ gWords := g_t1 192 rfl rfl
set_option maxRecDepth 4000 in
theorem ml_X7_429 : Cond.methodLink RX7 429 yX7_countLetters ∈ gWords := g_t1 196 rfl rfl
set_option maxRecDepth 4000 in
theorem ml_X7_432 : Cond.methodLink RX7 432 yX7_countLost ∈ gWords := g_t1 201 rfl rfl
set_option maxRecDepth 4000 in
theorem ml_X7_435 : Cond.methodLink RX7 435 yX7_countLent ∈ gWords := g_t1 206 rfl rfl
set_option maxRecDepth 4000 in
theorem ml_X7_381 : Cond.methodLink RX7 381 yX7_digestCases ∈ gWords := g_t1 210 rfl rfl
set_option maxRecDepth 4000 in
theorem ml_X7_175 : Cond.methodLink RX7 175 yX7_tellCase ∈ gWords := g_t1 215 rfl rfl
set_option maxRecDepth 4000 in
theorem ml_X7_438 : Cond.methodLink RX7 438 yX7_countDocumentsOf ∈ gWords := g_t1 219 rfl rfl
set_option maxRecDepth 4000 in
theorem ml_X7_86 : Cond.methodLink RX7 86 yX7_exhibitsOf ∈ gWords := g_t1 223 rfl rfl
set_option maxRecDepth 4000 in
theorem ml_X7_441 : Cond.methodLink RX7 441 yJ6_bitCount_0f7a4 ∈ gWords := g_t1 227 rfl rfl
set_option maxRecDepth 4000 in
theorem ml_X7_446 : Cond.methodLink RX7 446 yX7_countAdmitted ∈ gWords := g_t1 233 rfl rfl
set_option maxRecDepth 4000 in
theorem ml_X7_452 : Cond.methodLink RX7 452 yX3_canBeAdmitted ∈ gWords := g_t1 237 rfl rfl
set_option maxRecDepth 4000 in
theorem ml_X3_37 : Cond.methodLink RX3 37 yJx4a65c_size_8abf5 ∈ gWords := g_t2 1 rfl rfl
set_option maxRecDepth 4000 in
theorem ml_X3_45 : Cond.methodLink RX3 45 yJx4a65c_get_915e3 ∈ gWords := g_t2 2 rfl rfl
set_option maxRecDepth 4000 in
theorem ml_X3_59 : Cond.methodLink RX3 59 yX5_taints ∈ gWords := g_t2 4 rfl rfl
set_option maxRecDepth 4000 in
theorem ml_X7_449 : Cond.methodLink RX7 449 yX7_countWhoSeeInto ∈ gWords := g_t2 8 rfl rfl
set_option maxRecDepth 4000 in
theorem ml_X7_264 : Cond.methodLink RX7 264 yX6_canSeeInto ∈ gWords := g_t2 13 rfl rfl
set_option maxRecDepth 4000 in
theorem ml_X6_34 : Cond.methodLink RX6 34 yX6_reachWith ∈ gWords := g_t2 17 rfl rfl
set_option maxRecDepth 4000 in
theorem ml_X6_38 : Cond.methodLink RX6 38 yX6_isAttachedTo ∈ gWords := g_t2 21 rfl rfl
set_option maxRecDepth 4000 in
theorem ml_X6_41 : Cond.methodLink RX6 41 Lib.Math.min.name ∈ gWords := g_t2 25 rfl rfl
set_option maxRecDepth 4000 in
theorem ml_X7_385 : Cond.methodLink RX7 385 yX7_digestPeople ∈ gWords := g_t2 28 rfl rfl
set_option maxRecDepth 4000 in
theorem ml_X7_169 : Cond.methodLink RX7 169 yX7_tellPerson ∈ gWords := g_t2 32 rfl rfl
set_option maxRecDepth 4000 in
theorem ml_X7_455 : Cond.methodLink RX7 455 yX7_casesSeenBy ∈ gWords := g_t2 36 rfl rfl
set_option maxRecDepth 4000 in
theorem ml_X7_458 : Cond.methodLink RX7 458 yX7_countOriginalsWith ∈ gWords := g_t2 40 rfl rfl
set_option maxRecDepth 4000 in
theorem ml_X7_461 : Cond.methodLink RX7 461 yX7_countExhibitsWith ∈ gWords := g_t2 44 rfl rfl
set_option maxRecDepth 4000 in
theorem ml_X7_464 : Cond.methodLink RX7 464 yX7_countDeliveredTo ∈ gWords := g_t2 48 rfl rfl
set_option maxRecDepth 4000 in
theorem ml_X7_388 : Cond.methodLink RX7 388 yX7_digestDocuments ∈ gWords := g_t2 52 rfl rfl
set_option maxRecDepth 4000 in
theorem ml_X7_126 : Cond.methodLink RX7 126 yX7_tellDocument ∈ gWords := g_t2 56 rfl rfl
set_option maxRecDepth 4000 in
theorem ml_X7_467 : Cond.methodLink RX7 467 yX1_greatestLevel ∈ gWords := g_t2 59 rfl rfl
set_option maxRecDepth 4000 in
theorem ml_X1_58 : Cond.methodLink RX1 58 Lib.Math.max.name ∈ gWords := g_t2 63 rfl rfl
set_option maxRecDepth 4000 in
theorem ml_X7_470 : Cond.methodLink RX7 470 yX1_countMarked ∈ gWords := g_t2 66 rfl rfl
set_option maxRecDepth 4000 in
theorem ml_X7_232 : Cond.methodLink RX7 232 yX7_numberOf ∈ gWords := g_t2 70 rfl rfl
set_option maxRecDepth 4000 in
theorem ml_X7_391 : Cond.methodLink RX7 391 yX7_digestExhibits ∈ gWords := g_t2 73 rfl rfl
set_option maxRecDepth 4000 in
theorem ml_X7_294 : Cond.methodLink RX7 294 yX7_tellExhibit ∈ gWords := g_t2 77 rfl rfl
set_option maxRecDepth 4000 in
theorem ml_X7_476 : Cond.methodLink RX7 476 yX3_countGaps ∈ gWords := g_t2 81 rfl rfl
set_option maxRecDepth 4000 in
theorem ml_X7_479 : Cond.methodLink RX7 479 yX7_countDocumentsThatMark ∈ gWords := g_t2 85 rfl rfl
set_option maxRecDepth 4000 in
theorem ml_X7_304 : Cond.methodLink RX7 304 yX7_tellLink ∈ gWords := g_t2 90 rfl rfl
set_option maxRecDepth 4000 in
theorem ml_X7_394 : Cond.methodLink RX7 394 yX7_digestLetters ∈ gWords := g_t2 93 rfl rfl
set_option maxRecDepth 4000 in
theorem ml_X7_323 : Cond.methodLink RX7 323 yX7_tellLetter ∈ gWords := g_t2 97 rfl rfl
set_option maxRecDepth 4000 in
theorem ml_L_121 : Cond.methodLink RL 121 yL_feed ∈ gWords := g_t2 100 rfl rfl
set_option maxRecDepth 4000 in
theorem ml_L_7 : Cond.methodLink RL 7 yX7_feed ∈ gWords := g_t2 104 rfl rfl
set_option maxRecDepth 4000 in
theorem ml_X7_59 : Cond.methodLink RX7 59 ⟨"java/lang/IllegalStateException", "<init>", "(Ljava/lang/String;)V"⟩ ∈ gWords := g_t2 150 rfl rfl
set_option maxRecDepth 4000 in
theorem ml_X7_62 : Cond.methodLink RX7 62 yX7_append ∈ gWords := g_t2 175 rfl rfl
set_option maxRecDepth 4000 in
theorem ml_L_131 : Cond.methodLink RL 131 yL_trim ∈ gWords := g_t2 179 rfl rfl
set_option maxRecDepth 4000 in
theorem ml_L_15 : Cond.methodLink RL 15 yX7_trim ∈ gWords := g_t2 183 rfl rfl
set_option maxRecDepth 4000 in
theorem ml_X7_70 : Cond.methodLink RX7 70 ⟨"java/lang/IllegalArgumentException", "<init>", "(Ljava/lang/String;)V"⟩ ∈ gWords := g_t2 197 rfl rfl
set_option maxRecDepth 4000 in
theorem ml_L_135 : Cond.methodLink RL 135 yL_file ∈ gWords := g_t2 203 rfl rfl
set_option maxRecDepth 4000 in
theorem ml_L_21 : Cond.methodLink RL 21 yX7_file ∈ gWords := g_t2 207 rfl rfl
set_option maxRecDepth 4000 in
theorem ml_X7_71 : Cond.methodLink RX7 71 yX7_caseAt ∈ gWords := g_t2 211 rfl rfl
set_option maxRecDepth 4000 in
theorem ml_X7_79 : Cond.methodLink RX7 79 ⟨"java/lang/IndexOutOfBoundsException", "<init>", "(Ljava/lang/String;)V"⟩ ∈ gWords := g_t2 225 rfl rfl
set_option maxRecDepth 4000 in
theorem ml_X7_90 : Cond.methodLink RX7 90 yX2_take ∈ gWords := g_t2 232 rfl rfl
set_option maxRecDepth 4000 in
theorem ml_X2_25 : Cond.methodLink RX2 25 yX2_start ∈ gWords := g_t2 236 rfl rfl
set_option maxRecDepth 4000 in
theorem ml_X2_29 : Cond.methodLink RX2 29 yX2_takeByte ∈ gWords := g_t3 0 rfl rfl
set_option maxRecDepth 4000 in
theorem ml_X2_65 : Cond.methodLink RX2 65 yX2_takeLevel ∈ gWords := g_t3 4 rfl rfl
set_option maxRecDepth 4000 in
theorem ml_X2_94 : Cond.methodLink RX2 94 Lib.Math.max.name ∈ gWords := g_t3 8 rfl rfl
set_option maxRecDepth 4000 in
theorem ml_X2_69 : Cond.methodLink RX2 69 yX2_takeColon ∈ gWords := g_t3 9 rfl rfl
set_option maxRecDepth 4000 in
theorem ml_X2_72 : Cond.methodLink RX2 72 yX2_takeNameByte ∈ gWords := g_t3 13 rfl rfl
set_option maxRecDepth 4000 in
theorem ml_X2_100 : Cond.methodLink RX2 100 yX2_isLetter ∈ gWords := g_t3 17 rfl rfl
set_option maxRecDepth 4000 in
theorem ml_X2_90 : Cond.methodLink RX2 90 yX2_put ∈ gWords := g_t3 20 rfl rfl
set_option maxRecDepth 4000 in
theorem ml_X2_75 : Cond.methodLink RX2 75 yX2_takeNumberByte ∈ gWords := g_t3 24 rfl rfl
set_option maxRecDepth 4000 in
theorem ml_X2_44 : Cond.methodLink RX2 44 yX2_endNumber ∈ gWords := g_t3 28 rfl rfl
set_option maxRecDepth 4000 in
theorem ml_X2_78 : Cond.methodLink RX2 78 yX2_takeBodyByte ∈ gWords := g_t3 32 rfl rfl
set_option maxRecDepth 4000 in
theorem ml_X2_87 : Cond.methodLink RX2 87 yX2_takePlain ∈ gWords := g_t3 36 rfl rfl
set_option maxRecDepth 4000 in
theorem ml_X2_37 : Cond.methodLink RX2 37 yX2_isWhole ∈ gWords := g_t3 40 rfl rfl
set_option maxRecDepth 4000 in
theorem ml_X7_97 : Cond.methodLink RX7 97 yX1_init ∈ gWords := g_t3 45 rfl rfl
set_option maxRecDepth 4000 in
theorem ml_X1_3 : Cond.methodLink RX1 3 objectInit ∈ gWords := g_t3 48 rfl rfl
set_option maxRecDepth 4000 in
theorem ml_X1_35 : Cond.methodLink RX1 35 yX1_firstOf ∈ gWords := g_t3 49 rfl rfl
set_option maxRecDepth 4000 in
theorem ml_X1_52 : Cond.methodLink RX1 52 Lib.Math.min.name ∈ gWords := g_t3 52 rfl rfl
set_option maxRecDepth 4000 in
theorem ml_X1_61 : Cond.methodLink RX1 61 yJ7_copyOf_9075b ∈ gWords := g_t3 53 rfl rfl
set_option maxRecDepth 4000 in
theorem ml_J7_310 : Cond.methodLink RJ7 310 ⟨"[B", "clone", "()Ljava/lang/Object;"⟩ ∈ gWords := g_t3 56 rfl rfl
set_option maxRecDepth 4000 in
theorem ml_J7_304 : Cond.methodLink RJ7 304 Lib.Math.min.name ∈ gWords := g_t3 63 rfl rfl
set_option maxRecDepth 4000 in
theorem ml_J7_150 : Cond.methodLink RJ7 150 ⟨"java/lang/System", "arraycopy", "(Ljava/lang/Object;ILjava/lang/Object;II)V"⟩ ∈ gWords := g_t3 64 rfl rfl
set_option maxRecDepth 4000 in
theorem ml_X7_100 : Cond.methodLink RX7 100 yJx4a65c_add_9ea2d ∈ gWords := g_t3 99 rfl rfl
set_option maxRecDepth 4000 in
theorem ml_Jx4a65c_131 : Cond.methodLink RJx4a65c 131 yJx4a65c_add_72be8 ∈ gWords := g_t3 103 rfl rfl
set_option maxRecDepth 4000 in
theorem ml_Jx4a65c_129 : Cond.methodLink RJx4a65c 129 yJx4a65c_grow_d5877 ∈ gWords := g_t3 107 rfl rfl
set_option maxRecDepth 4000 in
theorem ml_Jx4a65c_69 : Cond.methodLink RJx4a65c 69 yJx4a65c_grow_92f84 ∈ gWords := g_t3 111 rfl rfl
set_option maxRecDepth 4000 in
theorem ml_Jx4a65c_73 : Cond.methodLink RJx4a65c 73 yJ8_newLength_cabcc ∈ gWords := g_t3 115 rfl rfl
set_option maxRecDepth 4000 in
theorem ml_J8_194 : Cond.methodLink RJ8 194 Lib.Math.max.name ∈ gWords := g_t3 118 rfl rfl
set_option maxRecDepth 4000 in
theorem ml_J8_201 : Cond.methodLink RJ8 201 yJ8_hugeLength_7cf53 ∈ gWords := g_t3 120 rfl rfl
set_option maxRecDepth 4000 in
theorem ml_Jx4a65c_66 : Cond.methodLink RJx4a65c 66 yJ7_copyOf_1904c ∈ gWords := g_t3 123 rfl rfl
set_option maxRecDepth 4000 in
theorem ml_J7_86 : Cond.methodLink RJ7 86 ⟨"java/lang/Object", "getClass", "()Ljava/lang/Class;"⟩ ∈ gWords := g_t3 126 rfl rfl
set_option maxRecDepth 4000 in
theorem ml_J7_300 : Cond.methodLink RJ7 300 yJ7_copyOf_6403c ∈ gWords := g_t3 144 rfl rfl
set_option maxRecDepth 4000 in
theorem ml_Jx4a65c_79 : Cond.methodLink RJx4a65c 79 Lib.Math.max.name ∈ gWords := g_t3 150 rfl rfl
set_option maxRecDepth 4000 in
theorem ml_L_142 : Cond.methodLink RL 142 yL_veil ∈ gWords := g_t3 152 rfl rfl
set_option maxRecDepth 4000 in
theorem ml_L_26 : Cond.methodLink RL 26 yX7_veil ∈ gWords := g_t3 155 rfl rfl
set_option maxRecDepth 4000 in
theorem ml_X7_104 : Cond.methodLink RX7 104 yX7_documentAt ∈ gWords := g_t3 159 rfl rfl
set_option maxRecDepth 4000 in
theorem ml_X7_110 : Cond.methodLink RX7 110 yX1_hasRange ∈ gWords := g_t3 164 rfl rfl
set_option maxRecDepth 4000 in
theorem ml_X7_114 : Cond.methodLink RX7 114 yX7_isLevel ∈ gWords := g_t3 168 rfl rfl
set_option maxRecDepth 4000 in
theorem ml_X7_120 : Cond.methodLink RX7 120 yX1_setLevels ∈ gWords := g_t3 172 rfl rfl
set_option maxRecDepth 4000 in
theorem ml_L_146 : Cond.methodLink RL 146 yL_document ∈ gWords := g_t3 176 rfl rfl
set_option maxRecDepth 4000 in
theorem ml_L_30 : Cond.methodLink RL 30 yX7_document ∈ gWords := g_t3 179 rfl rfl
set_option maxRecDepth 4000 in
theorem ml_L_150 : Cond.methodLink RL 150 yL_open ∈ gWords := g_t3 184 rfl rfl
set_option maxRecDepth 4000 in
theorem ml_L_34 : Cond.methodLink RL 34 yX7_open ∈ gWords := g_t3 187 rfl rfl
set_option maxRecDepth 4000 in
theorem ml_X7_136 : Cond.methodLink RX7 136 yX0_init ∈ gWords := g_t3 194 rfl rfl
set_option maxRecDepth 4000 in
theorem ml_X0_1 : Cond.methodLink RX0 1 objectInit ∈ gWords := g_t3 197 rfl rfl
set_option maxRecDepth 4000 in
theorem ml_L_153 : Cond.methodLink RL 153 yL_seal ∈ gWords := g_t3 209 rfl rfl
set_option maxRecDepth 4000 in
theorem ml_L_37 : Cond.methodLink RL 37 yX7_seal ∈ gWords := g_t3 212 rfl rfl
set_option maxRecDepth 4000 in
theorem ml_L_156 : Cond.methodLink RL 156 yL_addPerson ∈ gWords := g_t3 216 rfl rfl
set_option maxRecDepth 4000 in
theorem ml_L_40 : Cond.methodLink RL 40 yX7_addPerson ∈ gWords := g_t3 219 rfl rfl
set_option maxRecDepth 4000 in
theorem ml_X7_148 : Cond.methodLink RX7 148 yX6_init ∈ gWords := g_t3 226 rfl rfl
set_option maxRecDepth 4000 in
theorem ml_X6_3 : Cond.methodLink RX6 3 objectInit ∈ gWords := g_t3 229 rfl rfl
set_option maxRecDepth 4000 in
theorem ml_L_159 : Cond.methodLink RL 159 yL_attach ∈ gWords := g_t4 14 rfl rfl
set_option maxRecDepth 4000 in
theorem ml_L_43 : Cond.methodLink RL 43 yX7_attach ∈ gWords := g_t4 17 rfl rfl
set_option maxRecDepth 4000 in
theorem ml_X7_151 : Cond.methodLink RX7 151 yX7_personAt ∈ gWords := g_t4 21 rfl rfl
set_option maxRecDepth 4000 in
theorem ml_X7_163 : Cond.methodLink RX7 163 yX6_isAttachedTo ∈ gWords := g_t4 26 rfl rfl
set_option maxRecDepth 4000 in
theorem ml_L_162 : Cond.methodLink RL 162 yL_person ∈ gWords := g_t4 27 rfl rfl
set_option maxRecDepth 4000 in
theorem ml_L_47 : Cond.methodLink RL 47 yX7_person ∈ gWords := g_t4 30 rfl rfl
set_option maxRecDepth 4000 in
theorem ml_L_165 : Cond.methodLink RL 165 yL_caseOf ∈ gWords := g_t4 35 rfl rfl
set_option maxRecDepth 4000 in
theorem ml_L_50 : Cond.methodLink RL 50 yX7_caseOf ∈ gWords := g_t4 38 rfl rfl
set_option maxRecDepth 4000 in
theorem ml_L_168 : Cond.methodLink RL 168 yL_read ∈ gWords := g_t4 43 rfl rfl
set_option maxRecDepth 4000 in
theorem ml_L_53 : Cond.methodLink RL 53 yX7_read ∈ gWords := g_t4 46 rfl rfl
set_option maxRecDepth 4000 in
theorem ml_X7_185 : Cond.methodLink RX7 185 yX6_reachInto ∈ gWords := g_t4 51 rfl rfl
set_option maxRecDepth 4000 in
theorem ml_X6_30 : Cond.methodLink RX6 30 yX6_canSeeInto ∈ gWords := g_t4 55 rfl rfl
set_option maxRecDepth 4000 in
theorem ml_X7_188 : Cond.methodLink RX7 188 yX7_writePaper ∈ gWords := g_t4 56 rfl rfl
set_option maxRecDepth 4000 in
theorem ml_X7_398 : Cond.methodLink RX7 398 Lib.Math.min.name ∈ gWords := g_t4 60 rfl rfl
set_option maxRecDepth 4000 in
theorem ml_X7_206 : Cond.methodLink RX7 206 yX1_seenAt ∈ gWords := g_t4 61 rfl rfl
set_option maxRecDepth 4000 in
theorem ml_X7_192 : Cond.methodLink RX7 192 yX1_writeLog ∈ gWords := g_t4 65 rfl rfl
set_option maxRecDepth 4000 in
theorem ml_L_171 : Cond.methodLink RL 171 yL_byteAt ∈ gWords := g_t4 69 rfl rfl
set_option maxRecDepth 4000 in
theorem ml_L_56 : Cond.methodLink RL 56 yX7_byteAt ∈ gWords := g_t4 72 rfl rfl
set_option maxRecDepth 4000 in
theorem ml_L_174 : Cond.methodLink RL 174 yL_hidden ∈ gWords := g_t4 77 rfl rfl
set_option maxRecDepth 4000 in
theorem ml_L_59 : Cond.methodLink RL 59 yX7_hidden ∈ gWords := g_t4 80 rfl rfl
set_option maxRecDepth 4000 in
theorem ml_X7_198 : Cond.methodLink RX7 198 yX7_hiddenBytes ∈ gWords := g_t4 84 rfl rfl
set_option maxRecDepth 4000 in
theorem ml_X7_216 : Cond.methodLink RX7 216 yX1_countHidden ∈ gWords := g_t4 87 rfl rfl
set_option maxRecDepth 4000 in
theorem ml_X1_66 : Cond.methodLink RX1 66 yX1_seenAt ∈ gWords := g_t4 91 rfl rfl
set_option maxRecDepth 4000 in
theorem ml_L_177 : Cond.methodLink RL 177 yL_differs ∈ gWords := g_t4 92 rfl rfl
set_option maxRecDepth 4000 in
theorem ml_L_62 : Cond.methodLink RL 62 yX7_differs ∈ gWords := g_t4 95 rfl rfl
set_option maxRecDepth 4000 in
theorem ml_L_181 : Cond.methodLink RL 181 yL_find ∈ gWords := g_t4 99 rfl rfl
set_option maxRecDepth 4000 in
theorem ml_L_66 : Cond.methodLink RL 66 yX7_find ∈ gWords := g_t4 102 rfl rfl
set_option maxRecDepth 4000 in
theorem ml_X7_210 : Cond.methodLink RX7 210 yX7_isTapeSeen ∈ gWords := g_t4 106 rfl rfl
set_option maxRecDepth 4000 in
theorem ml_L_184 : Cond.methodLink RL 184 yL_least ∈ gWords := g_t4 110 rfl rfl
set_option maxRecDepth 4000 in
theorem ml_L_69 : Cond.methodLink RL 69 yX7_least ∈ gWords := g_t4 113 rfl rfl
set_option maxRecDepth 4000 in
theorem ml_L_187 : Cond.methodLink RL 187 yL_lend ∈ gWords := g_t4 118 rfl rfl
set_option maxRecDepth 4000 in
theorem ml_L_72 : Cond.methodLink RL 72 yX7_lend ∈ gWords := g_t4 121 rfl rfl
set_option maxRecDepth 4000 in
theorem ml_L_190 : Cond.methodLink RL 190 yL_back ∈ gWords := g_t4 128 rfl rfl
set_option maxRecDepth 4000 in
theorem ml_L_75 : Cond.methodLink RL 75 yX7_back ∈ gWords := g_t4 131 rfl rfl
set_option maxRecDepth 4000 in
theorem ml_X7_236 : Cond.methodLink RX7 236 yX1_bringBack ∈ gWords := g_t4 135 rfl rfl
set_option maxRecDepth 4000 in
theorem ml_L_193 : Cond.methodLink RL 193 yL_takeIn ∈ gWords := g_t4 139 rfl rfl
set_option maxRecDepth 4000 in
theorem ml_L_78 : Cond.methodLink RL 78 yX7_takeIn ∈ gWords := g_t4 142 rfl rfl
set_option maxRecDepth 4000 in
theorem ml_X7_243 : Cond.methodLink RX7 243 yX3_init ∈ gWords := g_t4 148 rfl rfl
set_option maxRecDepth 4000 in
theorem ml_X3_3 : Cond.methodLink RX3 3 objectInit ∈ gWords := g_t4 151 rfl rfl
set_option maxRecDepth 4000 in
theorem ml_X3_21 : Cond.methodLink RX3 21 yJx4a65c_init_da8c8 ∈ gWords := g_t4 153 rfl rfl
set_option maxRecDepth 4000 in
theorem ml_L_196 : Cond.methodLink RL 196 yL_hand ∈ gWords := g_t4 179 rfl rfl
set_option maxRecDepth 4000 in
theorem ml_L_81 : Cond.methodLink RL 81 yX7_hand ∈ gWords := g_t4 182 rfl rfl
set_option maxRecDepth 4000 in
theorem ml_X7_246 : Cond.methodLink RX7 246 yX7_exhibitAt ∈ gWords := g_t4 186 rfl rfl
set_option maxRecDepth 4000 in
theorem ml_X7_257 : Cond.methodLink RX7 257 yX3_hasFullChain ∈ gWords := g_t4 191 rfl rfl
set_option maxRecDepth 4000 in
theorem ml_X7_271 : Cond.methodLink RX7 271 yX5_init ∈ gWords := g_t4 198 rfl rfl
set_option maxRecDepth 4000 in
theorem ml_X5_3 : Cond.methodLink RX5 3 objectInit ∈ gWords := g_t4 201 rfl rfl
set_option maxRecDepth 4000 in
theorem ml_X7_274 : Cond.methodLink RX7 274 yX3_addLink ∈ gWords := g_t4 220 rfl rfl
set_option maxRecDepth 4000 in
theorem ml_X3_41 : Cond.methodLink RX3 41 yJx4a65c_add_9ea2d ∈ gWords := g_t4 224 rfl rfl
set_option maxRecDepth 4000 in
theorem ml_L_199 : Cond.methodLink RL 199 yL_unseal ∈ gWords := g_t4 225 rfl rfl
set_option maxRecDepth 4000 in
theorem ml_L_84 : Cond.methodLink RL 84 yX7_unseal ∈ gWords := g_t4 228 rfl rfl
set_option maxRecDepth 4000 in
theorem ml_L_202 : Cond.methodLink RL 202 yL_lose ∈ gWords := g_t4 234 rfl rfl
set_option maxRecDepth 4000 in
theorem ml_L_87 : Cond.methodLink RL 87 yX7_lose ∈ gWords := g_t4 237 rfl rfl
set_option maxRecDepth 4000 in
theorem ml_L_205 : Cond.methodLink RL 205 yL_found ∈ gWords := g_t5 2 rfl rfl
set_option maxRecDepth 4000 in
theorem ml_L_90 : Cond.methodLink RL 90 yX7_found ∈ gWords := g_t5 5 rfl rfl
set_option maxRecDepth 4000 in
theorem ml_L_208 : Cond.methodLink RL 208 yL_exhibit ∈ gWords := g_t5 10 rfl rfl
set_option maxRecDepth 4000 in
theorem ml_L_93 : Cond.methodLink RL 93 yX7_exhibit ∈ gWords := g_t5 13 rfl rfl
set_option maxRecDepth 4000 in
theorem ml_L_211 : Cond.methodLink RL 211 yL_link ∈ gWords := g_t5 18 rfl rfl
set_option maxRecDepth 4000 in
theorem ml_L_96 : Cond.methodLink RL 96 yX7_link ∈ gWords := g_t5 21 rfl rfl
set_option maxRecDepth 4000 in
theorem ml_L_214 : Cond.methodLink RL 214 yL_send ∈ gWords := g_t5 26 rfl rfl
set_option maxRecDepth 4000 in
theorem ml_L_99 : Cond.methodLink RL 99 yX7_send ∈ gWords := g_t5 29 rfl rfl
set_option maxRecDepth 4000 in
theorem ml_X7_314 : Cond.methodLink RX7 314 yX4_init ∈ gWords := g_t5 36 rfl rfl
set_option maxRecDepth 4000 in
theorem ml_X4_3 : Cond.methodLink RX4 3 objectInit ∈ gWords := g_t5 39 rfl rfl
set_option maxRecDepth 4000 in
theorem ml_L_217 : Cond.methodLink RL 217 yL_letter ∈ gWords := g_t5 65 rfl rfl
set_option maxRecDepth 4000 in
theorem ml_L_102 : Cond.methodLink RL 102 yX7_letter ∈ gWords := g_t5 68 rfl rfl
set_option maxRecDepth 4000 in
theorem ml_X7_317 : Cond.methodLink RX7 317 yX7_letterAt ∈ gWords := g_t5 72 rfl rfl
set_option maxRecDepth 4000 in
theorem ml_L_220 : Cond.methodLink RL 220 yL_pass ∈ gWords := g_t5 77 rfl rfl
set_option maxRecDepth 4000 in
theorem ml_L_105 : Cond.methodLink RL 105 yX7_pass ∈ gWords := g_t5 80 rfl rfl
set_option maxRecDepth 4000 in
theorem ml_X7_329 : Cond.methodLink RX7 329 yX7_carryOutLetters ∈ gWords := g_t5 85 rfl rfl
set_option maxRecDepth 4000 in
theorem ml_X7_340 : Cond.methodLink RX7 340 yX7_lettersOfADay ∈ gWords := g_t5 89 rfl rfl
set_option maxRecDepth 4000 in
theorem ml_X7_403 : Cond.methodLink RX7 403 yX7_nextLetter ∈ gWords := g_t5 93 rfl rfl
set_option maxRecDepth 4000 in
theorem ml_X7_407 : Cond.methodLink RX7 407 yX7_carryOut ∈ gWords := g_t5 97 rfl rfl
set_option maxRecDepth 4000 in
theorem ml_X7_332 : Cond.methodLink RX7 332 yX7_callBackOriginals ∈ gWords := g_t5 101 rfl rfl
set_option maxRecDepth 4000 in
theorem ml_X7_417 : Cond.methodLink RX7 417 yX6_warn ∈ gWords := g_t5 105 rfl rfl
set_option maxRecDepth 4000 in
theorem ml_X6_50 : Cond.methodLink RX6 50 Lib.Math.max.name ∈ gWords := g_t5 109 rfl rfl
set_option maxRecDepth 4000 in
theorem ml_L_223 : Cond.methodLink RL 223 yL_arrives ∈ gWords := g_t5 110 rfl rfl
set_option maxRecDepth 4000 in
theorem ml_L_108 : Cond.methodLink RL 108 yX7_arrives ∈ gWords := g_t5 113 rfl rfl
set_option maxRecDepth 4000 in
theorem ml_X7_343 : Cond.methodLink RX7 343 yX7_lettersAhead ∈ gWords := g_t5 118 rfl rfl
set_option maxRecDepth 4000 in
theorem ml_X7_354 : Cond.methodLink RX7 354 yX7_clearanceBehind ∈ gWords := g_t5 122 rfl rfl
set_option maxRecDepth 4000 in
theorem ml_X7_426 : Cond.methodLink RX7 426 Lib.Math.max.name ∈ gWords := g_t5 126 rfl rfl
set_option maxRecDepth 4000 in
theorem ml_X7_357 : Cond.methodLink RX7 357 yX6_reachWith ∈ gWords := g_t5 127 rfl rfl
set_option maxRecDepth 4000 in
theorem ml_L_226 : Cond.methodLink RL 226 yL_count ∈ gWords := g_t5 128 rfl rfl
set_option maxRecDepth 4000 in
theorem ml_L_111 : Cond.methodLink RL 111 yX7_count ∈ gWords := g_t5 131 rfl rfl
set_option maxRecDepth 4000 in
theorem ml_L_229 : Cond.methodLink RL 229 yL_sees ∈ gWords := g_t5 136 rfl rfl
set_option maxRecDepth 4000 in
theorem ml_L_114 : Cond.methodLink RL 114 yX7_sees ∈ gWords := g_t5 139 rfl rfl
set_option maxRecDepth 4000 in
theorem ml_X7_370 : Cond.methodLink RX7 370 yX7_bytesSeenBy ∈ gWords := g_t5 143 rfl rfl
set_option maxRecDepth 4000 in
theorem ml_L_120 : Cond.methodLink RL 120 yX9_init ∈ gWords := g_t5 149 rfl rfl
set_option maxRecDepth 4000 in
theorem ml_X9_1 : Cond.methodLink RX9 1 objectInit ∈ gWords := g_t5 152 rfl rfl
set_option maxRecDepth 4000 in
theorem ml_X8_9 : Cond.methodLink RX8 9 objectInit ∈ gWords := g_t5 160 rfl rfl
set_option maxRecDepth 4000 in
theorem ml_L_127 : Cond.methodLink RL 127 yX9_thrown ∈ gWords := g_t6 72 rfl rfl
set_option maxRecDepth 4000 in
theorem ml_L_126 : Cond.methodLink RL 126 yX9_feed ∈ gWords := g_t6 76 rfl rfl
set_option maxRecDepth 4000 in
theorem ml_X9_113 : Cond.methodLink RX9 113 yX9_no ∈ gWords := g_t6 80 rfl rfl
set_option maxRecDepth 4000 in
theorem ml_L_134 : Cond.methodLink RL 134 yX9_trim ∈ gWords := g_t6 84 rfl rfl
set_option maxRecDepth 4000 in
theorem ml_X9_97 : Cond.methodLink RX9 97 yX9_isIn ∈ gWords := g_t6 88 rfl rfl
set_option maxRecDepth 4000 in
theorem ml_L_137 : Cond.methodLink RL 137 yX9_file ∈ gWords := g_t6 91 rfl rfl
set_option maxRecDepth 4000 in
theorem ml_X9_147 : Cond.methodLink RX9 147 yX9_isCase ∈ gWords := g_t6 95 rfl rfl
set_option maxRecDepth 4000 in
theorem ml_X9_150 : Cond.methodLink RX9 150 yX9_parse ∈ gWords := g_t6 99 rfl rfl
set_option maxRecDepth 4000 in
theorem ml_X9_126 : Cond.methodLink RX9 126 yX9_at ∈ gWords := g_t6 103 rfl rfl
set_option maxRecDepth 4000 in
theorem ml_X9_129 : Cond.methodLink RX9 129 Lib.Math.max.name ∈ gWords := g_t6 107 rfl rfl
set_option maxRecDepth 4000 in
theorem ml_X9_135 : Cond.methodLink RX9 135 yX9_isLetter ∈ gWords := g_t6 108 rfl rfl
set_option maxRecDepth 4000 in
theorem ml_X9_139 : Cond.methodLink RX9 139 yX9_write ∈ gWords := g_t6 111 rfl rfl
set_option maxRecDepth 4000 in
theorem ml_X9_143 : Cond.methodLink RX9 143 yX9_writeExhibit ∈ gWords := g_t6 115 rfl rfl
set_option maxRecDepth 4000 in
theorem ml_X9_153 : Cond.methodLink RX9 153 yJ7_copyOf_59c91 ∈ gWords := g_t6 119 rfl rfl
set_option maxRecDepth 4000 in
theorem ml_J7_316 : Cond.methodLink RJ7 316 ⟨"[I", "clone", "()Ljava/lang/Object;"⟩ ∈ gWords := g_t6 122 rfl rfl
set_option maxRecDepth 4000 in
theorem ml_L_141 : Cond.methodLink RL 141 yX9_errorAt ∈ gWords := g_t6 127 rfl rfl
set_option maxRecDepth 4000 in
theorem ml_L_145 : Cond.methodLink RL 145 yX9_veil ∈ gWords := g_t6 131 rfl rfl
set_option maxRecDepth 4000 in
theorem ml_X9_164 : Cond.methodLink RX9 164 yX9_isDocument ∈ gWords := g_t6 135 rfl rfl
set_option maxRecDepth 4000 in
theorem ml_L_149 : Cond.methodLink RL 149 yX9_document ∈ gWords := g_t6 139 rfl rfl
set_option maxRecDepth 4000 in
theorem ml_X9_170 : Cond.methodLink RX9 170 yX9_documentTold ∈ gWords := g_t6 143 rfl rfl
set_option maxRecDepth 4000 in
theorem ml_L_152 : Cond.methodLink RL 152 yX9_open ∈ gWords := g_t6 147 rfl rfl
set_option maxRecDepth 4000 in
theorem ml_L_155 : Cond.methodLink RL 155 yX9_seal ∈ gWords := g_t6 151 rfl rfl
set_option maxRecDepth 4000 in
theorem ml_L_158 : Cond.methodLink RL 158 yX9_addPerson ∈ gWords := g_t6 155 rfl rfl
set_option maxRecDepth 4000 in
theorem ml_L_161 : Cond.methodLink RL 161 yX9_attach ∈ gWords := g_t6 159 rfl rfl
set_option maxRecDepth 4000 in
theorem ml_X9_176 : Cond.methodLink RX9 176 yX9_isPerson ∈ gWords := g_t6 163 rfl rfl
set_option maxRecDepth 4000 in
theorem ml_L_164 : Cond.methodLink RL 164 yX9_person ∈ gWords := g_t6 167 rfl rfl
set_option maxRecDepth 4000 in
theorem ml_X9_191 : Cond.methodLink RX9 191 yX9_personTold ∈ gWords := g_t6 171 rfl rfl
set_option maxRecDepth 4000 in
theorem ml_X9_179 : Cond.methodLink RX9 179 yX8_isIn ∈ gWords := g_t6 175 rfl rfl
set_option maxRecDepth 4000 in
theorem ml_X8_66 : Cond.methodLink RX8 66 yX8_reach ∈ gWords := g_t6 179 rfl rfl
set_option maxRecDepth 4000 in
theorem ml_X8_57 : Cond.methodLink RX8 57 Lib.Math.min.name ∈ gWords := g_t6 183 rfl rfl
set_option maxRecDepth 4000 in
theorem ml_L_167 : Cond.methodLink RL 167 yX9_caseOf ∈ gWords := g_t6 184 rfl rfl
set_option maxRecDepth 4000 in
theorem ml_X9_197 : Cond.methodLink RX9 197 yX9_caseTold ∈ gWords := g_t6 188 rfl rfl
set_option maxRecDepth 4000 in
theorem ml_X9_194 : Cond.methodLink RX9 194 yX9_isGood ∈ gWords := g_t6 192 rfl rfl
set_option maxRecDepth 4000 in
theorem ml_X9_238 : Cond.methodLink RX9 238 yX9_gaps ∈ gWords := g_t6 196 rfl rfl
set_option maxRecDepth 4000 in
theorem ml_X9_235 : Cond.methodLink RX9 235 yX9_linkTold ∈ gWords := g_t6 200 rfl rfl
set_option maxRecDepth 4000 in
theorem ml_L_170 : Cond.methodLink RL 170 yX9_read ∈ gWords := g_t6 204 rfl rfl
set_option maxRecDepth 4000 in
theorem ml_X9_207 : Cond.methodLink RX9 207 yX9_isPair ∈ gWords := g_t6 208 rfl rfl
set_option maxRecDepth 4000 in
theorem ml_X9_213 : Cond.methodLink RX9 213 yX9_seenBy ∈ gWords := g_t6 212 rfl rfl
set_option maxRecDepth 4000 in
theorem ml_X9_200 : Cond.methodLink RX9 200 yX8_reach ∈ gWords := g_t6 216 rfl rfl
set_option maxRecDepth 4000 in
theorem ml_X9_203 : Cond.methodLink RX9 203 yX9_seen ∈ gWords := g_t6 217 rfl rfl
set_option maxRecDepth 4000 in
theorem ml_L_173 : Cond.methodLink RL 173 yX9_byteAt ∈ gWords := g_t6 221 rfl rfl
set_option maxRecDepth 4000 in
theorem ml_L_176 : Cond.methodLink RL 176 yX9_hidden ∈ gWords := g_t6 225 rfl rfl
set_option maxRecDepth 4000 in
theorem ml_X9_216 : Cond.methodLink RX9 216 yX9_hiddenOf ∈ gWords := g_t6 229 rfl rfl
set_option maxRecDepth 4000 in
theorem ml_L_180 : Cond.methodLink RL 180 yX9_differs ∈ gWords := g_t6 233 rfl rfl
set_option maxRecDepth 4000 in
theorem ml_L_183 : Cond.methodLink RL 183 yX9_find ∈ gWords := g_t6 237 rfl rfl
set_option maxRecDepth 4000 in
theorem ml_L_186 : Cond.methodLink RL 186 yX9_least ∈ gWords := g_t7 1 rfl rfl
set_option maxRecDepth 4000 in
theorem ml_L_189 : Cond.methodLink RL 189 yX9_lend ∈ gWords := g_t7 5 rfl rfl
set_option maxRecDepth 4000 in
theorem ml_L_192 : Cond.methodLink RL 192 yX9_back ∈ gWords := g_t7 9 rfl rfl
set_option maxRecDepth 4000 in
theorem ml_L_195 : Cond.methodLink RL 195 yX9_takeIn ∈ gWords := g_t7 13 rfl rfl
set_option maxRecDepth 4000 in
theorem ml_L_198 : Cond.methodLink RL 198 yX9_hand ∈ gWords := g_t7 17 rfl rfl
set_option maxRecDepth 4000 in
theorem ml_X9_228 : Cond.methodLink RX9 228 yX9_isExhibit ∈ gWords := g_t7 21 rfl rfl
set_option maxRecDepth 4000 in
theorem ml_X9_231 : Cond.methodLink RX9 231 yX9_add ∈ gWords := g_t7 25 rfl rfl
set_option maxRecDepth 4000 in
theorem ml_X9_222 : Cond.methodLink RX9 222 ⟨"java/lang/System", "arraycopy", "(Ljava/lang/Object;ILjava/lang/Object;II)V"⟩ ∈ gWords := g_t7 29 rfl rfl
set_option maxRecDepth 4000 in
theorem ml_L_201 : Cond.methodLink RL 201 yX9_unseal ∈ gWords := g_t7 30 rfl rfl
set_option maxRecDepth 4000 in
theorem ml_L_204 : Cond.methodLink RL 204 yX9_lose ∈ gWords := g_t7 34 rfl rfl
set_option maxRecDepth 4000 in
theorem ml_L_207 : Cond.methodLink RL 207 yX9_found ∈ gWords := g_t7 38 rfl rfl
set_option maxRecDepth 4000 in
theorem ml_L_210 : Cond.methodLink RL 210 yX9_exhibit ∈ gWords := g_t7 42 rfl rfl
set_option maxRecDepth 4000 in
theorem ml_X9_241 : Cond.methodLink RX9 241 yX9_exhibitTold ∈ gWords := g_t7 46 rfl rfl
set_option maxRecDepth 4000 in
theorem ml_L_213 : Cond.methodLink RL 213 yX9_link ∈ gWords := g_t7 50 rfl rfl
set_option maxRecDepth 4000 in
theorem ml_L_216 : Cond.methodLink RL 216 yX9_send ∈ gWords := g_t7 54 rfl rfl
set_option maxRecDepth 4000 in
theorem ml_L_219 : Cond.methodLink RL 219 yX9_letter ∈ gWords := g_t7 58 rfl rfl
set_option maxRecDepth 4000 in
theorem ml_X9_247 : Cond.methodLink RX9 247 yX9_letterTold ∈ gWords := g_t7 62 rfl rfl
set_option maxRecDepth 4000 in
theorem ml_L_222 : Cond.methodLink RL 222 yX9_pass ∈ gWords := g_t7 66 rfl rfl
set_option maxRecDepth 4000 in
theorem ml_X9_250 : Cond.methodLink RX9 250 yX8_pass ∈ gWords := g_t7 70 rfl rfl
set_option maxRecDepth 4000 in
theorem ml_X8_79 : Cond.methodLink RX8 79 yX8_next ∈ gWords := g_t7 78 rfl rfl
set_option maxRecDepth 4000 in
theorem ml_X8_91 : Cond.methodLink RX8 91 yX8_isIn ∈ gWords := g_t7 82 rfl rfl
set_option maxRecDepth 4000 in
theorem ml_X8_98 : Cond.methodLink RX8 98 Lib.Math.max.name ∈ gWords := g_t7 83 rfl rfl
set_option maxRecDepth 4000 in
theorem ml_L_225 : Cond.methodLink RL 225 yX9_arrives ∈ gWords := g_t7 84 rfl rfl
set_option maxRecDepth 4000 in
theorem ml_X9_254 : Cond.methodLink RX9 254 yX8_become ∈ gWords := g_t7 88 rfl rfl
set_option maxRecDepth 4000 in
theorem ml_X8_47 : Cond.methodLink RX8 47 yX8_copy ∈ gWords := g_t7 92 rfl rfl
set_option maxRecDepth 4000 in
theorem ml_X8_37 : Cond.methodLink RX8 37 ⟨"java/lang/System", "arraycopy", "(Ljava/lang/Object;ILjava/lang/Object;II)V"⟩ ∈ gWords := g_t7 96 rfl rfl
set_option maxRecDepth 4000 in
theorem ml_L_228 : Cond.methodLink RL 228 yX9_count ∈ gWords := g_t7 97 rfl rfl
set_option maxRecDepth 4000 in
theorem ml_X9_258 : Cond.methodLink RX9 258 yX9_counted ∈ gWords := g_t7 101 rfl rfl
set_option maxRecDepth 4000 in
theorem ml_L_231 : Cond.methodLink RL 231 yX9_sees ∈ gWords := g_t7 105 rfl rfl
set_option maxRecDepth 4000 in
theorem ml_L_236 : Cond.methodLink RL 236 yX9_plain ∈ gWords := g_t7 109 rfl rfl
set_option maxRecDepth 4000 in
theorem ml_L_241 : Cond.methodLink RL 241 yX9_digest ∈ gWords := g_t7 113 rfl rfl
set_option maxRecDepth 4000 in
theorem ml_X7_44 : Cond.methodLinkNest RX7 44 yX2_init "CourtMail" ∈ tables_1 := g_u1 63 rfl
set_option maxRecDepth 4000 in
theorem ml_X9_72 : Cond.methodLinkNest RX9 72 yX8_init "CourtMailModel" ∈ tables_1 := g_u5 157 rfl
set_option maxRecDepth 4000 in
theorem ml_X8_75 : Cond.methodLinkNest RX8 75 yX9_clerks "CourtMailModel" ∈ tables_1 := g_u7 74 rfl
set_option maxRecDepth 4000 in
theorem k_J6_265 : Cond.constant RJ6 265 1431655765 ∈ gWords := g_t1 230 rfl rfl
set_option maxRecDepth 4000 in
theorem k_J6_266 : Cond.constant RJ6 266 858993459 ∈ gWords := g_t1 231 rfl rfl
set_option maxRecDepth 4000 in
theorem k_J6_267 : Cond.constant RJ6 267 252645135 ∈ gWords := g_t1 232 rfl rfl
set_option maxRecDepth 4000 in
theorem k_J8_200 : Cond.constant RJ8 200 2147483639 ∈ gWords := g_t3 119 rfl rfl
set_option maxRecDepth 4000 in
theorem k_X7_377 : Cond.constantLong RX7 377 653 ∈ gWords := g_t1 190 rfl rfl
set_option maxRecDepth 4000 in
theorem k_X7_379 : Cond.constantLong RX7 379 31 ∈ gWords := g_t1 191 rfl rfl
set_option maxRecDepth 4000 in
theorem k_X9_261 : Cond.constantLong RX9 261 653 ∈ gWords := g_t7 117 rfl rfl
set_option maxRecDepth 4000 in
theorem k_X9_263 : Cond.constantLong RX9 263 31 ∈ gWords := g_t7 118 rfl rfl
set_option maxRecDepth 4000 in
theorem st_X7_57 : Cond.stringRef RX7 57 "the tape has no place for twenty bytes more" ∈ tables_1 := g_u2 149 rfl
set_option maxRecDepth 4000 in
theorem st_X7_68 : Cond.stringRef RX7 68 "the tape does not have so many bytes" ∈ tables_1 := g_u2 196 rfl
set_option maxRecDepth 4000 in
theorem st_X7_77 : Cond.stringRef RX7 77 "no such case" ∈ tables_1 := g_u2 224 rfl
set_option maxRecDepth 4000 in
theorem st_X7_84 : Cond.stringRef RX7 84 "there are 24 documents" ∈ tables_1 := g_u2 231 rfl
set_option maxRecDepth 4000 in
theorem st_X7_108 : Cond.stringRef RX7 108 "no such document" ∈ tables_1 := g_u3 163 rfl
set_option maxRecDepth 4000 in
theorem st_X7_118 : Cond.stringRef RX7 118 "no such bytes, or no such level" ∈ tables_1 := g_u3 171 rfl
set_option maxRecDepth 4000 in
theorem st_X7_124 : Cond.stringRef RX7 124 "no such document, or nothing to tell" ∈ tables_1 := g_u3 183 rfl
set_option maxRecDepth 4000 in
theorem st_X7_130 : Cond.stringRef RX7 130 "a seal is 0 to 9" ∈ tables_1 := g_u3 191 rfl
set_option maxRecDepth 4000 in
theorem st_X7_132 : Cond.stringRef RX7 132 "there are 8 cases" ∈ tables_1 := g_u3 192 rfl
set_option maxRecDepth 4000 in
theorem st_X7_142 : Cond.stringRef RX7 142 "no such role, or no such clearance" ∈ tables_1 := g_u3 223 rfl
set_option maxRecDepth 4000 in
theorem st_X7_144 : Cond.stringRef RX7 144 "there are 12 people" ∈ tables_1 := g_u3 224 rfl
set_option maxRecDepth 4000 in
theorem st_X7_155 : Cond.stringRef RX7 155 "no such person or case" ∈ tables_1 := g_u4 25 rfl
set_option maxRecDepth 4000 in
theorem st_X7_167 : Cond.stringRef RX7 167 "no such person, or nothing to tell" ∈ tables_1 := g_u4 34 rfl
set_option maxRecDepth 4000 in
theorem st_X7_173 : Cond.stringRef RX7 173 "no such case, or nothing to tell" ∈ tables_1 := g_u4 42 rfl
set_option maxRecDepth 4000 in
theorem st_X7_179 : Cond.stringRef RX7 179 "no such person or document" ∈ tables_1 := g_u4 50 rfl
set_option maxRecDepth 4000 in
theorem st_X7_196 : Cond.stringRef RX7 196 "no such place on the paper" ∈ tables_1 := g_u4 76 rfl
set_option maxRecDepth 4000 in
theorem st_X7_214 : Cond.stringRef RX7 214 "no such bytes" ∈ tables_1 := g_u4 117 rfl
set_option maxRecDepth 4000 in
theorem st_X7_219 : Cond.stringRef RX7 219 "no such document or person" ∈ tables_1 := g_u4 125 rfl
set_option maxRecDepth 4000 in
theorem st_X7_221 : Cond.stringRef RX7 221 "an original is lent for 1 to 60 days" ∈ tables_1 := g_u4 126 rfl
set_option maxRecDepth 4000 in
theorem st_X7_227 : Cond.stringRef RX7 227 "the original is out, or not all of it is seen" ∈ tables_1 := g_u4 127 rfl
set_option maxRecDepth 4000 in
theorem st_X7_239 : Cond.stringRef RX7 239 "there are 20 exhibits" ∈ tables_1 := g_u4 146 rfl
set_option maxRecDepth 4000 in
theorem st_X7_250 : Cond.stringRef RX7 250 "no such exhibit or person" ∈ tables_1 := g_u4 190 rfl
set_option maxRecDepth 4000 in
theorem st_X7_261 : Cond.stringRef RX7 261 "lost, there already, or its chain is full" ∈ tables_1 := g_u4 195 rfl
set_option maxRecDepth 4000 in
theorem st_X7_267 : Cond.stringRef RX7 267 "this person cannot see into its case" ∈ tables_1 := g_u4 196 rfl
set_option maxRecDepth 4000 in
theorem st_X7_281 : Cond.stringRef RX7 281 "no such exhibit" ∈ tables_1 := g_u4 232 rfl
set_option maxRecDepth 4000 in
theorem st_X7_283 : Cond.stringRef RX7 283 "with nobody, or its chain is full" ∈ tables_1 := g_u4 233 rfl
set_option maxRecDepth 4000 in
theorem st_X7_288 : Cond.stringRef RX7 288 "it is lost already" ∈ tables_1 := g_u5 1 rfl
set_option maxRecDepth 4000 in
theorem st_X7_290 : Cond.stringRef RX7 290 "not lost, or its chain is full" ∈ tables_1 := g_u5 9 rfl
set_option maxRecDepth 4000 in
theorem st_X7_292 : Cond.stringRef RX7 292 "no such exhibit, or nothing to tell" ∈ tables_1 := g_u5 17 rfl
set_option maxRecDepth 4000 in
theorem st_X7_298 : Cond.stringRef RX7 298 "no such exhibit or link, or nothing to tell" ∈ tables_1 := g_u5 25 rfl
set_option maxRecDepth 4000 in
theorem st_X7_308 : Cond.stringRef RX7 308 "a letter is due in 0 to 30 days" ∈ tables_1 := g_u5 33 rfl
set_option maxRecDepth 4000 in
theorem st_X7_310 : Cond.stringRef RX7 310 "there are 40 letters" ∈ tables_1 := g_u5 34 rfl
set_option maxRecDepth 4000 in
theorem st_X7_321 : Cond.stringRef RX7 321 "no such letter, or nothing to tell" ∈ tables_1 := g_u5 76 rfl
set_option maxRecDepth 4000 in
theorem st_X7_327 : Cond.stringRef RX7 327 "1 to 100 days go by" ∈ tables_1 := g_u5 84 rfl
set_option maxRecDepth 4000 in
theorem st_X7_335 : Cond.stringRef RX7 335 "no such letter" ∈ tables_1 := g_u5 117 rfl
set_option maxRecDepth 4000 in
theorem st_X7_361 : Cond.stringRef RX7 361 "nothing to tell" ∈ tables_1 := g_u5 135 rfl
set_option maxRecDepth 4000 in
theorem ac_byte : Cond.arrayClass .byte ∈ gWords := g_t1 117 rfl rfl
set_option maxRecDepth 4000 in
theorem ac_int : Cond.arrayClass .int ∈ gWords := g_t1 116 rfl rfl
set_option maxRecDepth 4000 in
theorem ac_long : Cond.arrayClass .long ∈ gWords := g_t7 119 rfl rfl
set_option maxRecDepth 4000 in
theorem oi_1 : Cond.instanceMethod objectInit ∈ gWords := g_t1 33 rfl rfl
set_option maxRecDepth 4000 in
theorem oi_2 : Cond.code objectInit ⟨#[0xb1]⟩ 1 none ∈ gWords := g_t1 34 rfl rfl
def nm_ISE : List String := ["java/lang/RuntimeException", "java/lang/Exception"]
theorem tf_ISE : Bundle.fit "java/lang/IllegalStateException" = true ∧ ∀ n ∈ nm_ISE, Bundle.fit n = true := ⟨by decide +kernel, by decide +kernel⟩
set_option maxRecDepth 4000 in
theorem ti_ISE : Cond.initialized "java/lang/IllegalStateException" ∈ gWords := g_t1 11 rfl rfl
theorem ta_ISE : ∀ w ∈ vx_atS RX7 59 "java/lang/IllegalStateException" nm_ISE, w ∈ gWords ∨ (w ∈ tables_1 ∧ gNW w = true) := gAtS (by decide +kernel)
def nm_IAE : List String := ["java/lang/RuntimeException", "java/lang/Exception"]
theorem tf_IAE : Bundle.fit "java/lang/IllegalArgumentException" = true ∧ ∀ n ∈ nm_IAE, Bundle.fit n = true := ⟨by decide +kernel, by decide +kernel⟩
set_option maxRecDepth 4000 in
theorem ti_IAE : Cond.initialized "java/lang/IllegalArgumentException" ∈ gWords := g_t1 12 rfl rfl
theorem ta_IAE : ∀ w ∈ vx_atS RX7 70 "java/lang/IllegalArgumentException" nm_IAE, w ∈ gWords ∨ (w ∈ tables_1 ∧ gNW w = true) := gAtS (by decide +kernel)
def nm_IOE : List String := ["java/lang/RuntimeException", "java/lang/Exception"]
theorem tf_IOE : Bundle.fit "java/lang/IndexOutOfBoundsException" = true ∧ ∀ n ∈ nm_IOE, Bundle.fit n = true := ⟨by decide +kernel, by decide +kernel⟩
set_option maxRecDepth 4000 in
theorem ti_IOE : Cond.initialized "java/lang/IndexOutOfBoundsException" ∈ gWords := g_t1 15 rfl rfl
theorem ta_IOE : ∀ w ∈ vx_atS RX7 79 "java/lang/IndexOutOfBoundsException" nm_IOE, w ∈ gWords ∨ (w ∈ tables_1 ∧ gNW w = true) := gAtS (by decide +kernel)
