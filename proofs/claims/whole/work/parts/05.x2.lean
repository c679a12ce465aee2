set_option maxRecDepth 4000 in
theorem mt_X7_nextLetter : gMeth yX7_nextLetter cX7_nextLetter 4 (some (.object "CourtMail$Letter")) 0 := ⟨g_t5 96 rfl rfl, g_t1 1 rfl rfl, by decide +kernel, by decide⟩
set_option maxRecDepth 4000 in
theorem mi_X7_nextLetter : gInst yX7_nextLetter := ⟨g_t5 95 rfl rfl, g_p 46 (q := (⟨"CourtMail", "nextLetter", "()LCourtMail$Letter;"⟩, 12)) (by decide +kernel) (by decide +kernel)⟩
set_option maxRecDepth 4000 in
theorem mt_X7_carryOut : gMeth yX7_carryOut cX7_carryOut 2 none 1 := ⟨g_t5 100 rfl rfl, g_t1 1 rfl rfl, by decide +kernel, by decide⟩
set_option maxRecDepth 4000 in
theorem mi_X7_carryOut : gInst yX7_carryOut := ⟨g_t5 99 rfl rfl, g_p 47 (q := (⟨"CourtMail", "carryOut", "(LCourtMail$Letter;)V"⟩, 12)) (by decide +kernel) (by decide +kernel)⟩
set_option maxRecDepth 4000 in
theorem mt_X7_callBackOriginals : gMeth yX7_callBackOriginals cX7_callBackOriginals 3 none 0 := ⟨g_t5 104 rfl rfl, g_t1 1 rfl rfl, by decide +kernel, by decide⟩
set_option maxRecDepth 4000 in
theorem mi_X7_callBackOriginals : gInst yX7_callBackOriginals := ⟨g_t5 103 rfl rfl, g_p 48 (q := (⟨"CourtMail", "callBackOriginals", "()V"⟩, 12)) (by decide +kernel) (by decide +kernel)⟩
set_option maxRecDepth 4000 in
theorem mt_X6_warn : gMeth yX6_warn cX6_warn 1 none 0 := ⟨g_t5 108 rfl rfl, g_t1 22 rfl rfl, by decide +kernel, by decide⟩
set_option maxRecDepth 4000 in
theorem mi_X6_warn : gInst yX6_warn := ⟨g_t5 106 rfl rfl, g_t5 107 rfl rfl⟩
set_option maxRecDepth 4000 in
theorem mt_X7_arrives : gMeth yX7_arrives cX7_arrives 6 (some .int) 1 := ⟨g_t5 116 rfl rfl, g_t1 1 rfl rfl, by decide +kernel, by decide⟩
set_option maxRecDepth 4000 in
theorem mi_X7_arrives : gInst yX7_arrives := ⟨g_t5 114 rfl rfl, g_t5 115 rfl rfl⟩
set_option maxRecDepth 4000 in
theorem mt_X7_lettersAhead : gMeth yX7_lettersAhead cX7_lettersAhead 6 (some .int) 2 := ⟨g_t5 121 rfl rfl, g_t1 1 rfl rfl, by decide +kernel, by decide⟩
set_option maxRecDepth 4000 in
theorem mi_X7_lettersAhead : gInst yX7_lettersAhead := ⟨g_t5 120 rfl rfl, g_p 49 (q := (⟨"CourtMail", "lettersAhead", "(ILCourtMail$Letter;)I"⟩, 12)) (by decide +kernel) (by decide +kernel)⟩
set_option maxRecDepth 4000 in
theorem mt_X7_clearanceBehind : gMeth yX7_clearanceBehind cX7_clearanceBehind 6 (some .int) 2 := ⟨g_t5 125 rfl rfl, g_t1 1 rfl rfl, by decide +kernel, by decide⟩
set_option maxRecDepth 4000 in
theorem mi_X7_clearanceBehind : gInst yX7_clearanceBehind := ⟨g_t5 124 rfl rfl, g_p 50 (q := (⟨"CourtMail", "clearanceBehind", "(LCourtMail$Person;I)I"⟩, 12)) (by decide +kernel) (by decide +kernel)⟩
set_option maxRecDepth 4000 in
theorem mt_X7_count : gMeth yX7_count cX7_count 2 (some .int) 1 := ⟨g_t5 134 rfl rfl, g_t1 1 rfl rfl, by decide +kernel, by decide⟩
set_option maxRecDepth 4000 in
theorem mi_X7_count : gInst yX7_count := ⟨g_t5 132 rfl rfl, g_t5 133 rfl rfl⟩
set_option maxRecDepth 4000 in
theorem mt_X7_sees : gMeth yX7_sees cX7_sees 8 (some .int) 1 := ⟨g_t5 142 rfl rfl, g_t1 1 rfl rfl, by decide +kernel, by decide⟩
set_option maxRecDepth 4000 in
theorem mi_X7_sees : gInst yX7_sees := ⟨g_t5 140 rfl rfl, g_t5 141 rfl rfl⟩
set_option maxRecDepth 4000 in
theorem mt_X7_bytesSeenBy : gMeth yX7_bytesSeenBy cX7_bytesSeenBy 6 (some .int) 2 := ⟨g_t5 146 rfl rfl, g_t1 1 rfl rfl, by decide +kernel, by decide⟩
set_option maxRecDepth 4000 in
theorem mi_X7_bytesSeenBy : gInst yX7_bytesSeenBy := ⟨g_t5 145 rfl rfl, g_p 51 (q := (⟨"CourtMail", "bytesSeenBy", "(LCourtMail$Person;LCourtMail$Case;)I"⟩, 12)) (by decide +kernel) (by decide +kernel)⟩
set_option maxRecDepth 4000 in
theorem mt_X9_init : gMeth yX9_init cX9_init 1 none 0 := ⟨g_t5 151 rfl rfl, g_t1 6 rfl rfl, by decide +kernel, by decide⟩
set_option maxRecDepth 4000 in
theorem mi_X9_init : gCtor yX9_init := ⟨g_t5 150 rfl rfl, rfl⟩
set_option maxRecDepth 4000 in
theorem mt_X8_init : gMeth yX8_init cX8_init 2 none 1 := ⟨g_t5 159 rfl rfl, g_t1 7 rfl rfl, by decide +kernel, by decide⟩
set_option maxRecDepth 4000 in
theorem mi_X8_init : gCtor yX8_init := ⟨g_t5 158 rfl rfl, rfl⟩
set_option maxRecDepth 4000 in
theorem mt_X9_thrown : gMeth yX9_thrown cX9_thrown 1 (some .int) 0 := ⟨g_t6 75 rfl rfl, g_t1 6 rfl rfl, by decide +kernel, by decide⟩
set_option maxRecDepth 4000 in
theorem mi_X9_thrown : gInst yX9_thrown := ⟨g_t6 73 rfl rfl, g_t6 74 rfl rfl⟩
set_option maxRecDepth 4000 in
theorem mt_X9_feed : gMeth yX9_feed cX9_feed 8 (some .int) 5 := ⟨g_t6 79 rfl rfl, g_t1 6 rfl rfl, by decide +kernel, by decide⟩
set_option maxRecDepth 4000 in
theorem mi_X9_feed : gInst yX9_feed := ⟨g_t6 77 rfl rfl, g_t6 78 rfl rfl⟩
set_option maxRecDepth 4000 in
theorem mt_X9_no : gMeth yX9_no cX9_no 2 (some .int) 1 := ⟨g_t6 83 rfl rfl, g_t1 6 rfl rfl, by decide +kernel, by decide⟩
set_option maxRecDepth 4000 in
theorem mi_X9_no : gInst yX9_no := ⟨g_t6 82 rfl rfl, g_p 52 (q := (⟨"CourtMailModel", "no", "(I)I"⟩, 35)) (by decide +kernel) (by decide +kernel)⟩
set_option maxRecDepth 4000 in
theorem mt_X9_trim : gMeth yX9_trim cX9_trim 2 (some .int) 1 := ⟨g_t6 87 rfl rfl, g_t1 6 rfl rfl, by decide +kernel, by decide⟩
set_option maxRecDepth 4000 in
theorem mi_X9_trim : gInst yX9_trim := ⟨g_t6 85 rfl rfl, g_t6 86 rfl rfl⟩
set_option maxRecDepth 4000 in
theorem mt_X9_isIn : gMeth yX9_isIn cX9_isIn 3 (some .boolean) 3 := ⟨g_t6 90 rfl rfl, g_t1 6 rfl rfl, by decide +kernel, by decide⟩
set_option maxRecDepth 4000 in
theorem ms_X9_isIn : gStat yX9_isIn := g_t6 89 rfl rfl
set_option maxRecDepth 4000 in
theorem mt_X9_file : gMeth yX9_file cX9_file 3 (some .int) 1 := ⟨g_t6 94 rfl rfl, g_t1 6 rfl rfl, by decide +kernel, by decide⟩
set_option maxRecDepth 4000 in
theorem mi_X9_file : gInst yX9_file := ⟨g_t6 92 rfl rfl, g_t6 93 rfl rfl⟩
set_option maxRecDepth 4000 in
theorem mt_X9_isCase : gMeth yX9_isCase cX9_isCase 2 (some .boolean) 1 := ⟨g_t6 98 rfl rfl, g_t1 6 rfl rfl, by decide +kernel, by decide⟩
set_option maxRecDepth 4000 in
theorem mi_X9_isCase : gInst yX9_isCase := ⟨g_t6 97 rfl rfl, g_p 53 (q := (⟨"CourtMailModel", "isCase", "(I)Z"⟩, 35)) (by decide +kernel) (by decide +kernel)⟩
set_option maxRecDepth 4000 in
theorem mt_X9_parse : gMeth yX9_parse cX9_parse 8 (some .int) 1 := ⟨g_t6 102 rfl rfl, g_t1 6 rfl rfl, by decide +kernel, by decide⟩
set_option maxRecDepth 4000 in
theorem mi_X9_parse : gInst yX9_parse := ⟨g_t6 101 rfl rfl, g_p 54 (q := (⟨"CourtMailModel", "parse", "(I)I"⟩, 35)) (by decide +kernel) (by decide +kernel)⟩
set_option maxRecDepth 4000 in
theorem mt_X9_at : gMeth yX9_at cX9_at 2 (some .int) 1 := ⟨g_t6 106 rfl rfl, g_t1 6 rfl rfl, by decide +kernel, by decide⟩
set_option maxRecDepth 4000 in
theorem mi_X9_at : gInst yX9_at := ⟨g_t6 105 rfl rfl, g_p 55 (q := (⟨"CourtMailModel", "at", "(I)I"⟩, 35)) (by decide +kernel) (by decide +kernel)⟩
set_option maxRecDepth 4000 in
theorem mt_X9_isLetter : gMeth yX9_isLetter cX9_isLetter 1 (some .boolean) 1 := ⟨g_t6 110 rfl rfl, g_t1 6 rfl rfl, by decide +kernel, by decide⟩
set_option maxRecDepth 4000 in
theorem ms_X9_isLetter : gStat yX9_isLetter := g_t6 109 rfl rfl
set_option maxRecDepth 4000 in
theorem mt_X9_write : gMeth yX9_write cX9_write 4 none 3 := ⟨g_t6 114 rfl rfl, g_t1 6 rfl rfl, by decide +kernel, by decide⟩
set_option maxRecDepth 4000 in
theorem mi_X9_write : gInst yX9_write := ⟨g_t6 113 rfl rfl, g_p 56 (q := (⟨"CourtMailModel", "write", "(III)V"⟩, 35)) (by decide +kernel) (by decide +kernel)⟩
set_option maxRecDepth 4000 in
theorem mt_X9_writeExhibit : gMeth yX9_writeExhibit cX9_writeExhibit 3 none 2 := ⟨g_t6 118 rfl rfl, g_t1 6 rfl rfl, by decide +kernel, by decide⟩
set_option maxRecDepth 4000 in
theorem mi_X9_writeExhibit : gInst yX9_writeExhibit := ⟨g_t6 117 rfl rfl, g_p 57 (q := (⟨"CourtMailModel", "writeExhibit", "(II)V"⟩, 35)) (by decide +kernel) (by decide +kernel)⟩
set_option maxRecDepth 4000 in
theorem mt_J7_copyOf_59c91 : gMeth yJ7_copyOf_59c91 cJ7_copyOf_59c91 3 (some (.array .int)) 2 := ⟨g_t6 121 rfl rfl, g_t1 18 rfl rfl, by decide +kernel, by decide⟩
set_option maxRecDepth 4000 in
theorem ms_J7_copyOf_59c91 : gStat yJ7_copyOf_59c91 := g_t6 120 rfl rfl
set_option maxRecDepth 4000 in
theorem mt_X9_errorAt : gMeth yX9_errorAt cX9_errorAt 1 (some .int) 0 := ⟨g_t6 130 rfl rfl, g_t1 6 rfl rfl, by decide +kernel, by decide⟩
set_option maxRecDepth 4000 in
theorem mi_X9_errorAt : gInst yX9_errorAt := ⟨g_t6 128 rfl rfl, g_t6 129 rfl rfl⟩
set_option maxRecDepth 4000 in
theorem mt_X9_veil : gMeth yX9_veil cX9_veil 7 (some .int) 4 := ⟨g_t6 134 rfl rfl, g_t1 6 rfl rfl, by decide +kernel, by decide⟩
set_option maxRecDepth 4000 in
theorem mi_X9_veil : gInst yX9_veil := ⟨g_t6 132 rfl rfl, g_t6 133 rfl rfl⟩
set_option maxRecDepth 4000 in
theorem mt_X9_isDocument : gMeth yX9_isDocument cX9_isDocument 2 (some .boolean) 1 := ⟨g_t6 138 rfl rfl, g_t1 6 rfl rfl, by decide +kernel, by decide⟩
set_option maxRecDepth 4000 in
theorem mi_X9_isDocument : gInst yX9_isDocument := ⟨g_t6 137 rfl rfl, g_p 58 (q := (⟨"CourtMailModel", "isDocument", "(I)Z"⟩, 35)) (by decide +kernel) (by decide +kernel)⟩
set_option maxRecDepth 4000 in
theorem mt_X9_document : gMeth yX9_document cX9_document 3 (some .int) 2 := ⟨g_t6 142 rfl rfl, g_t1 6 rfl rfl, by decide +kernel, by decide⟩
set_option maxRecDepth 4000 in
theorem mi_X9_document : gInst yX9_document := ⟨g_t6 140 rfl rfl, g_t6 141 rfl rfl⟩
set_option maxRecDepth 4000 in
theorem mt_X9_documentTold : gMeth yX9_documentTold cX9_documentTold 7 (some .int) 2 := ⟨g_t6 146 rfl rfl, g_t1 6 rfl rfl, by decide +kernel, by decide⟩
set_option maxRecDepth 4000 in
theorem mi_X9_documentTold : gInst yX9_documentTold := ⟨g_t6 145 rfl rfl, g_p 59 (q := (⟨"CourtMailModel", "documentTold", "(II)I"⟩, 35)) (by decide +kernel) (by decide +kernel)⟩
set_option maxRecDepth 4000 in
theorem mt_X9_open : gMeth yX9_open cX9_open 2 (some .int) 1 := ⟨g_t6 150 rfl rfl, g_t1 6 rfl rfl, by decide +kernel, by decide⟩
set_option maxRecDepth 4000 in
theorem mi_X9_open : gInst yX9_open := ⟨g_t6 148 rfl rfl, g_t6 149 rfl rfl⟩
set_option maxRecDepth 4000 in
theorem mt_X9_seal : gMeth yX9_seal cX9_seal 4 (some .int) 2 := ⟨g_t6 154 rfl rfl, g_t1 6 rfl rfl, by decide +kernel, by decide⟩
set_option maxRecDepth 4000 in
theorem mi_X9_seal : gInst yX9_seal := ⟨g_t6 152 rfl rfl, g_t6 153 rfl rfl⟩
set_option maxRecDepth 4000 in
theorem mt_X9_addPerson : gMeth yX9_addPerson cX9_addPerson 3 (some .int) 2 := ⟨g_t6 158 rfl rfl, g_t1 6 rfl rfl, by decide +kernel, by decide⟩
set_option maxRecDepth 4000 in
theorem mi_X9_addPerson : gInst yX9_addPerson := ⟨g_t6 156 rfl rfl, g_t6 157 rfl rfl⟩
set_option maxRecDepth 4000 in
theorem mt_X9_attach : gMeth yX9_attach cX9_attach 3 (some .boolean) 2 := ⟨g_t6 162 rfl rfl, g_t1 6 rfl rfl, by decide +kernel, by decide⟩
set_option maxRecDepth 4000 in
theorem mi_X9_attach : gInst yX9_attach := ⟨g_t6 160 rfl rfl, g_t6 161 rfl rfl⟩
set_option maxRecDepth 4000 in
theorem mt_X9_isPerson : gMeth yX9_isPerson cX9_isPerson 2 (some .boolean) 1 := ⟨g_t6 166 rfl rfl, g_t1 6 rfl rfl, by decide +kernel, by decide⟩
set_option maxRecDepth 4000 in
theorem mi_X9_isPerson : gInst yX9_isPerson := ⟨g_t6 165 rfl rfl, g_p 60 (q := (⟨"CourtMailModel", "isPerson", "(I)Z"⟩, 35)) (by decide +kernel) (by decide +kernel)⟩
set_option maxRecDepth 4000 in
theorem mt_X9_person : gMeth yX9_person cX9_person 3 (some .int) 2 := ⟨g_t6 170 rfl rfl, g_t1 6 rfl rfl, by decide +kernel, by decide⟩
set_option maxRecDepth 4000 in
theorem mi_X9_person : gInst yX9_person := ⟨g_t6 168 rfl rfl, g_t6 169 rfl rfl⟩
set_option maxRecDepth 4000 in
theorem mt_X9_personTold : gMeth yX9_personTold cX9_personTold 8 (some .int) 2 := ⟨g_t6 174 rfl rfl, g_t1 6 rfl rfl, by decide +kernel, by decide⟩
set_option maxRecDepth 4000 in
theorem mi_X9_personTold : gInst yX9_personTold := ⟨g_t6 173 rfl rfl, g_p 61 (q := (⟨"CourtMailModel", "personTold", "(II)I"⟩, 35)) (by decide +kernel) (by decide +kernel)⟩
set_option maxRecDepth 4000 in
theorem mt_X8_isIn : gMeth yX8_isIn cX8_isIn 3 (some .boolean) 2 := ⟨g_t6 178 rfl rfl, g_t1 7 rfl rfl, by decide +kernel, by decide⟩
set_option maxRecDepth 4000 in
theorem mi_X8_isIn : gInst yX8_isIn := ⟨g_t6 176 rfl rfl, g_t6 177 rfl rfl⟩
set_option maxRecDepth 4000 in
theorem mt_X8_reach : gMeth yX8_reach cX8_reach 3 (some .int) 2 := ⟨g_t6 182 rfl rfl, g_t1 7 rfl rfl, by decide +kernel, by decide⟩
set_option maxRecDepth 4000 in
theorem mi_X8_reach : gInst yX8_reach := ⟨g_t6 180 rfl rfl, g_t6 181 rfl rfl⟩
set_option maxRecDepth 4000 in
theorem mt_X9_caseOf : gMeth yX9_caseOf cX9_caseOf 3 (some .int) 2 := ⟨g_t6 187 rfl rfl, g_t1 6 rfl rfl, by decide +kernel, by decide⟩
set_option maxRecDepth 4000 in
theorem mi_X9_caseOf : gInst yX9_caseOf := ⟨g_t6 185 rfl rfl, g_t6 186 rfl rfl⟩
set_option maxRecDepth 4000 in
theorem mt_X9_caseTold : gMeth yX9_caseTold cX9_caseTold 8 (some .int) 2 := ⟨g_t6 191 rfl rfl, g_t1 6 rfl rfl, by decide +kernel, by decide⟩
set_option maxRecDepth 4000 in
theorem mi_X9_caseTold : gInst yX9_caseTold := ⟨g_t6 190 rfl rfl, g_p 62 (q := (⟨"CourtMailModel", "caseTold", "(II)I"⟩, 35)) (by decide +kernel) (by decide +kernel)⟩
set_option maxRecDepth 4000 in
theorem mt_X9_isGood : gMeth yX9_isGood cX9_isGood 6 (some .boolean) 1 := ⟨g_t6 195 rfl rfl, g_t1 6 rfl rfl, by decide +kernel, by decide⟩
set_option maxRecDepth 4000 in
theorem mi_X9_isGood : gInst yX9_isGood := ⟨g_t6 194 rfl rfl, g_p 63 (q := (⟨"CourtMailModel", "isGood", "(I)Z"⟩, 35)) (by decide +kernel) (by decide +kernel)⟩
set_option maxRecDepth 4000 in
theorem mt_X9_gaps : gMeth yX9_gaps cX9_gaps 4 (some .int) 1 := ⟨g_t6 199 rfl rfl, g_t1 6 rfl rfl, by decide +kernel, by decide⟩
set_option maxRecDepth 4000 in
theorem mi_X9_gaps : gInst yX9_gaps := ⟨g_t6 198 rfl rfl, g_p 64 (q := (⟨"CourtMailModel", "gaps", "(I)I"⟩, 35)) (by decide +kernel) (by decide +kernel)⟩
set_option maxRecDepth 4000 in
theorem mt_X9_linkTold : gMeth yX9_linkTold cX9_linkTold 4 (some .int) 3 := ⟨g_t6 203 rfl rfl, g_t1 6 rfl rfl, by decide +kernel, by decide⟩
set_option maxRecDepth 4000 in
theorem mi_X9_linkTold : gInst yX9_linkTold := ⟨g_t6 202 rfl rfl, g_p 65 (q := (⟨"CourtMailModel", "linkTold", "(III)I"⟩, 35)) (by decide +kernel) (by decide +kernel)⟩
set_option maxRecDepth 4000 in
theorem mt_X9_read : gMeth yX9_read cX9_read 4 (some .int) 2 := ⟨g_t6 207 rfl rfl, g_t1 6 rfl rfl, by decide +kernel, by decide⟩
set_option maxRecDepth 4000 in
theorem mi_X9_read : gInst yX9_read := ⟨g_t6 205 rfl rfl, g_t6 206 rfl rfl⟩
set_option maxRecDepth 4000 in
theorem mt_X9_isPair : gMeth yX9_isPair cX9_isPair 3 (some .boolean) 2 := ⟨g_t6 211 rfl rfl, g_t1 6 rfl rfl, by decide +kernel, by decide⟩
set_option maxRecDepth 4000 in
theorem mi_X9_isPair : gInst yX9_isPair := ⟨g_t6 210 rfl rfl, g_p 66 (q := (⟨"CourtMailModel", "isPair", "(II)Z"⟩, 35)) (by decide +kernel) (by decide +kernel)⟩
set_option maxRecDepth 4000 in
theorem mt_X9_seenBy : gMeth yX9_seenBy cX9_seenBy 4 (some .int) 3 := ⟨g_t6 215 rfl rfl, g_t1 6 rfl rfl, by decide +kernel, by decide⟩
set_option maxRecDepth 4000 in
theorem mi_X9_seenBy : gInst yX9_seenBy := ⟨g_t6 214 rfl rfl, g_p 67 (q := (⟨"CourtMailModel", "seenBy", "(III)I"⟩, 35)) (by decide +kernel) (by decide +kernel)⟩
set_option maxRecDepth 4000 in
theorem mt_X9_seen : gMeth yX9_seen cX9_seen 5 (some .int) 3 := ⟨g_t6 220 rfl rfl, g_t1 6 rfl rfl, by decide +kernel, by decide⟩
set_option maxRecDepth 4000 in
theorem mi_X9_seen : gInst yX9_seen := ⟨g_t6 219 rfl rfl, g_p 68 (q := (⟨"CourtMailModel", "seen", "(III)I"⟩, 35)) (by decide +kernel) (by decide +kernel)⟩
set_option maxRecDepth 4000 in
theorem mt_X9_byteAt : gMeth yX9_byteAt cX9_byteAt 2 (some .int) 1 := ⟨g_t6 224 rfl rfl, g_t1 6 rfl rfl, by decide +kernel, by decide⟩
set_option maxRecDepth 4000 in
theorem mi_X9_byteAt : gInst yX9_byteAt := ⟨g_t6 222 rfl rfl, g_t6 223 rfl rfl⟩
set_option maxRecDepth 4000 in
theorem mt_X9_hidden : gMeth yX9_hidden cX9_hidden 3 (some .int) 2 := ⟨g_t6 228 rfl rfl, g_t1 6 rfl rfl, by decide +kernel, by decide⟩
set_option maxRecDepth 4000 in
theorem mi_X9_hidden : gInst yX9_hidden := ⟨g_t6 226 rfl rfl, g_t6 227 rfl rfl⟩
set_option maxRecDepth 4000 in
theorem mt_X9_hiddenOf : gMeth yX9_hiddenOf cX9_hiddenOf 5 (some .int) 2 := ⟨g_t6 232 rfl rfl, g_t1 6 rfl rfl, by decide +kernel, by decide⟩
set_option maxRecDepth 4000 in
theorem mi_X9_hiddenOf : gInst yX9_hiddenOf := ⟨g_t6 231 rfl rfl, g_p 69 (q := (⟨"CourtMailModel", "hiddenOf", "(II)I"⟩, 35)) (by decide +kernel) (by decide +kernel)⟩
set_option maxRecDepth 4000 in
theorem mt_X9_differs : gMeth yX9_differs cX9_differs 5 (some .int) 3 := ⟨g_t6 236 rfl rfl, g_t1 6 rfl rfl, by decide +kernel, by decide⟩
set_option maxRecDepth 4000 in
theorem mi_X9_differs : gInst yX9_differs := ⟨g_t6 234 rfl rfl, g_t6 235 rfl rfl⟩
set_option maxRecDepth 4000 in
theorem mt_X9_find : gMeth yX9_find cX9_find 5 (some .int) 2 := ⟨g_t7 0 rfl rfl, g_t1 6 rfl rfl, by decide +kernel, by decide⟩
set_option maxRecDepth 4000 in
theorem mi_X9_find : gInst yX9_find := ⟨g_t6 238 rfl rfl, g_t6 239 rfl rfl⟩
set_option maxRecDepth 4000 in
theorem mt_X9_least : gMeth yX9_least cX9_least 6 (some .int) 3 := ⟨g_t7 4 rfl rfl, g_t1 6 rfl rfl, by decide +kernel, by decide⟩
set_option maxRecDepth 4000 in
theorem mi_X9_least : gInst yX9_least := ⟨g_t7 2 rfl rfl, g_t7 3 rfl rfl⟩
set_option maxRecDepth 4000 in
theorem mt_X9_lend : gMeth yX9_lend cX9_lend 4 (some .int) 3 := ⟨g_t7 8 rfl rfl, g_t1 6 rfl rfl, by decide +kernel, by decide⟩
set_option maxRecDepth 4000 in
theorem mi_X9_lend : gInst yX9_lend := ⟨g_t7 6 rfl rfl, g_t7 7 rfl rfl⟩
set_option maxRecDepth 4000 in
theorem mt_X9_back : gMeth yX9_back cX9_back 3 (some .int) 1 := ⟨g_t7 12 rfl rfl, g_t1 6 rfl rfl, by decide +kernel, by decide⟩
set_option maxRecDepth 4000 in
theorem mi_X9_back : gInst yX9_back := ⟨g_t7 10 rfl rfl, g_t7 11 rfl rfl⟩
set_option maxRecDepth 4000 in
theorem mt_X9_takeIn : gMeth yX9_takeIn cX9_takeIn 2 (some .int) 1 := ⟨g_t7 16 rfl rfl, g_t1 6 rfl rfl, by decide +kernel, by decide⟩
set_option maxRecDepth 4000 in
theorem mi_X9_takeIn : gInst yX9_takeIn := ⟨g_t7 14 rfl rfl, g_t7 15 rfl rfl⟩
set_option maxRecDepth 4000 in
theorem mt_X9_hand : gMeth yX9_hand cX9_hand 3 (some .int) 2 := ⟨g_t7 20 rfl rfl, g_t1 6 rfl rfl, by decide +kernel, by decide⟩
set_option maxRecDepth 4000 in
theorem mi_X9_hand : gInst yX9_hand := ⟨g_t7 18 rfl rfl, g_t7 19 rfl rfl⟩
set_option maxRecDepth 4000 in
theorem mt_X9_isExhibit : gMeth yX9_isExhibit cX9_isExhibit 2 (some .boolean) 1 := ⟨g_t7 24 rfl rfl, g_t1 6 rfl rfl, by decide +kernel, by decide⟩
set_option maxRecDepth 4000 in
theorem mi_X9_isExhibit : gInst yX9_isExhibit := ⟨g_t7 23 rfl rfl, g_p 70 (q := (⟨"CourtMailModel", "isExhibit", "(I)Z"⟩, 35)) (by decide +kernel) (by decide +kernel)⟩
set_option maxRecDepth 4000 in
theorem mt_X9_add : gMeth yX9_add cX9_add 6 (some .int) 4 := ⟨g_t7 28 rfl rfl, g_t1 6 rfl rfl, by decide +kernel, by decide⟩
set_option maxRecDepth 4000 in
theorem mi_X9_add : gInst yX9_add := ⟨g_t7 27 rfl rfl, g_p 71 (q := (⟨"CourtMailModel", "add", "(IIII)I"⟩, 35)) (by decide +kernel) (by decide +kernel)⟩
set_option maxRecDepth 4000 in
theorem mt_X9_unseal : gMeth yX9_unseal cX9_unseal 2 (some .int) 1 := ⟨g_t7 33 rfl rfl, g_t1 6 rfl rfl, by decide +kernel, by decide⟩
set_option maxRecDepth 4000 in
theorem mi_X9_unseal : gInst yX9_unseal := ⟨g_t7 31 rfl rfl, g_t7 32 rfl rfl⟩
set_option maxRecDepth 4000 in
theorem mt_X9_lose : gMeth yX9_lose cX9_lose 3 (some .int) 1 := ⟨g_t7 37 rfl rfl, g_t1 6 rfl rfl, by decide +kernel, by decide⟩
set_option maxRecDepth 4000 in
theorem mi_X9_lose : gInst yX9_lose := ⟨g_t7 35 rfl rfl, g_t7 36 rfl rfl⟩
set_option maxRecDepth 4000 in
theorem mt_X9_found : gMeth yX9_found cX9_found 3 (some .int) 2 := ⟨g_t7 41 rfl rfl, g_t1 6 rfl rfl, by decide +kernel, by decide⟩
set_option maxRecDepth 4000 in
theorem mi_X9_found : gInst yX9_found := ⟨g_t7 39 rfl rfl, g_t7 40 rfl rfl⟩
set_option maxRecDepth 4000 in
theorem mt_X9_exhibit : gMeth yX9_exhibit cX9_exhibit 3 (some .int) 2 := ⟨g_t7 45 rfl rfl, g_t1 6 rfl rfl, by decide +kernel, by decide⟩
set_option maxRecDepth 4000 in
theorem mi_X9_exhibit : gInst yX9_exhibit := ⟨g_t7 43 rfl rfl, g_t7 44 rfl rfl⟩
set_option maxRecDepth 4000 in
theorem mt_X9_exhibitTold : gMeth yX9_exhibitTold cX9_exhibitTold 5 (some .int) 2 := ⟨g_t7 49 rfl rfl, g_t1 6 rfl rfl, by decide +kernel, by decide⟩
set_option maxRecDepth 4000 in
theorem mi_X9_exhibitTold : gInst yX9_exhibitTold := ⟨g_t7 48 rfl rfl, g_p 72 (q := (⟨"CourtMailModel", "exhibitTold", "(II)I"⟩, 35)) (by decide +kernel) (by decide +kernel)⟩
set_option maxRecDepth 4000 in
theorem mt_X9_link : gMeth yX9_link cX9_link 4 (some .int) 3 := ⟨g_t7 53 rfl rfl, g_t1 6 rfl rfl, by decide +kernel, by decide⟩
set_option maxRecDepth 4000 in
theorem mi_X9_link : gInst yX9_link := ⟨g_t7 51 rfl rfl, g_t7 52 rfl rfl⟩
set_option maxRecDepth 4000 in
theorem mt_X9_send : gMeth yX9_send cX9_send 4 (some .int) 3 := ⟨g_t7 57 rfl rfl, g_t1 6 rfl rfl, by decide +kernel, by decide⟩
set_option maxRecDepth 4000 in
theorem mi_X9_send : gInst yX9_send := ⟨g_t7 55 rfl rfl, g_t7 56 rfl rfl⟩
set_option maxRecDepth 4000 in
theorem mt_X9_letter : gMeth yX9_letter cX9_letter 3 (some .int) 2 := ⟨g_t7 61 rfl rfl, g_t1 6 rfl rfl, by decide +kernel, by decide⟩
set_option maxRecDepth 4000 in
theorem mi_X9_letter : gInst yX9_letter := ⟨g_t7 59 rfl rfl, g_t7 60 rfl rfl⟩
set_option maxRecDepth 4000 in
theorem mt_X9_letterTold : gMeth yX9_letterTold cX9_letterTold 4 (some .int) 2 := ⟨g_t7 65 rfl rfl, g_t1 6 rfl rfl, by decide +kernel, by decide⟩
set_option maxRecDepth 4000 in
theorem mi_X9_letterTold : gInst yX9_letterTold := ⟨g_t7 64 rfl rfl, g_p 73 (q := (⟨"CourtMailModel", "letterTold", "(II)I"⟩, 35)) (by decide +kernel) (by decide +kernel)⟩
set_option maxRecDepth 4000 in
theorem mt_X9_pass : gMeth yX9_pass cX9_pass 4 (some .int) 1 := ⟨g_t7 69 rfl rfl, g_t1 6 rfl rfl, by decide +kernel, by decide⟩
set_option maxRecDepth 4000 in
theorem mi_X9_pass : gInst yX9_pass := ⟨g_t7 67 rfl rfl, g_t7 68 rfl rfl⟩
set_option maxRecDepth 4000 in
theorem mt_X8_pass : gMeth yX8_pass cX8_pass 5 (some .int) 0 := ⟨g_t7 73 rfl rfl, g_t1 7 rfl rfl, by decide +kernel, by decide⟩
set_option maxRecDepth 4000 in
theorem mi_X8_pass : gInst yX8_pass := ⟨g_t7 71 rfl rfl, g_t7 72 rfl rfl⟩
set_option maxRecDepth 4000 in
theorem mt_X9_clerks : gMeth yX9_clerks cX9_clerks 3 (some .int) 0 := ⟨g_t7 77 rfl rfl, g_t1 6 rfl rfl, by decide +kernel, by decide⟩
set_option maxRecDepth 4000 in
theorem mi_X9_clerks : gInst yX9_clerks := ⟨g_t7 76 rfl rfl, g_p 74 (q := (⟨"CourtMailModel", "clerks", "()I"⟩, 35)) (by decide +kernel) (by decide +kernel)⟩
set_option maxRecDepth 4000 in
theorem mt_X8_next : gMeth yX8_next cX8_next 3 (some .int) 0 := ⟨g_t7 81 rfl rfl, g_t1 7 rfl rfl, by decide +kernel, by decide⟩
set_option maxRecDepth 4000 in
theorem mi_X8_next : gInst yX8_next := ⟨g_t7 80 rfl rfl, g_p 75 (q := (⟨"CourtMailModel$State", "next", "()I"⟩, 9)) (by decide +kernel) (by decide +kernel)⟩
set_option maxRecDepth 4000 in
theorem mt_X9_arrives : gMeth yX9_arrives cX9_arrives 3 (some .int) 1 := ⟨g_t7 87 rfl rfl, g_t1 6 rfl rfl, by decide +kernel, by decide⟩
set_option maxRecDepth 4000 in
theorem mi_X9_arrives : gInst yX9_arrives := ⟨g_t7 85 rfl rfl, g_t7 86 rfl rfl⟩
set_option maxRecDepth 4000 in
theorem mt_X8_become : gMeth yX8_become cX8_become 2 none 1 := ⟨g_t7 91 rfl rfl, g_t1 7 rfl rfl, by decide +kernel, by decide⟩
set_option maxRecDepth 4000 in
theorem mi_X8_become : gInst yX8_become := ⟨g_t7 89 rfl rfl, g_t7 90 rfl rfl⟩
set_option maxRecDepth 4000 in
theorem mt_X8_copy : gMeth yX8_copy cX8_copy 3 none 2 := ⟨g_t7 95 rfl rfl, g_t1 7 rfl rfl, by decide +kernel, by decide⟩
set_option maxRecDepth 4000 in
theorem mi_X8_copy : gInst yX8_copy := ⟨g_t7 94 rfl rfl, g_p 76 (q := (⟨"CourtMailModel$State", "copy", "([I[I)V"⟩, 9)) (by decide +kernel) (by decide +kernel)⟩
set_option maxRecDepth 4000 in
theorem mt_X9_count : gMeth yX9_count cX9_count 2 (some .int) 1 := ⟨g_t7 100 rfl rfl, g_t1 6 rfl rfl, by decide +kernel, by decide⟩
set_option maxRecDepth 4000 in
theorem mi_X9_count : gInst yX9_count := ⟨g_t7 98 rfl rfl, g_t7 99 rfl rfl⟩
set_option maxRecDepth 4000 in
theorem mt_X9_counted : gMeth yX9_counted cX9_counted 7 (some .int) 1 := ⟨g_t7 104 rfl rfl, g_t1 6 rfl rfl, by decide +kernel, by decide⟩
set_option maxRecDepth 4000 in
theorem mi_X9_counted : gInst yX9_counted := ⟨g_t7 103 rfl rfl, g_p 77 (q := (⟨"CourtMailModel", "counted", "(I)I"⟩, 35)) (by decide +kernel) (by decide +kernel)⟩
set_option maxRecDepth 4000 in
theorem mt_X9_sees : gMeth yX9_sees cX9_sees 7 (some .int) 1 := ⟨g_t7 108 rfl rfl, g_t1 6 rfl rfl, by decide +kernel, by decide⟩
set_option maxRecDepth 4000 in
theorem mi_X9_sees : gInst yX9_sees := ⟨g_t7 106 rfl rfl, g_t7 107 rfl rfl⟩
set_option maxRecDepth 4000 in
theorem mt_X9_plain : gMeth yX9_plain cX9_plain 5 (some .double) 0 := ⟨g_t7 112 rfl rfl, g_t1 6 rfl rfl, by decide +kernel, by decide⟩
set_option maxRecDepth 4000 in
theorem mi_X9_plain : gInst yX9_plain := ⟨g_t7 110 rfl rfl, g_t7 111 rfl rfl⟩
set_option maxRecDepth 4000 in
theorem mt_X9_digest : gMeth yX9_digest cX9_digest 6 (some .long) 0 := ⟨g_t7 116 rfl rfl, g_t1 6 rfl rfl, by decide +kernel, by decide⟩
set_option maxRecDepth 4000 in
theorem mi_X9_digest : gInst yX9_digest := ⟨g_t7 114 rfl rfl, g_t7 115 rfl rfl⟩
set_option maxRecDepth 4000 in
theorem mh_L_feed : Cond.codeWith yL_feed cL_feed 8 (some .int) [((0 : Nat), (16 : Nat), (19 : Nat), (13 : Nat))] ∈ gWords := g_t2 102 rfl rfl
theorem md_L_feed : yL_feed.cls ≠ "java/lang/invoke/MethodHandle" ∧ yL_feed.cls ≠ "java/lang/invoke/VarHandle" ∧ (parseMethodDescriptor yL_feed.desc).map (fun d => d.parameters.length) = some 7 := by decide +kernel
set_option maxRecDepth 4000 in
theorem ms_L_feed : gStat yL_feed := g_t2 101 rfl rfl
set_option maxRecDepth 4000 in
theorem mh_L_trim : Cond.codeWith yL_trim cL_trim 4 (some .int) [((0 : Nat), (9 : Nat), (12 : Nat), (19 : Nat))] ∈ gWords := g_t2 181 rfl rfl
theorem md_L_trim : yL_trim.cls ≠ "java/lang/invoke/MethodHandle" ∧ yL_trim.cls ≠ "java/lang/invoke/VarHandle" ∧ (parseMethodDescriptor yL_trim.desc).map (fun d => d.parameters.length) = some 3 := by decide +kernel
set_option maxRecDepth 4000 in
theorem ms_L_trim : gStat yL_trim := g_t2 180 rfl rfl
set_option maxRecDepth 4000 in
theorem mh_L_file : Cond.codeWith yL_file cL_file 4 (some .int) [((0 : Nat), (9 : Nat), (12 : Nat), (24 : Nat)), ((0 : Nat), (9 : Nat), (15 : Nat), (13 : Nat))] ∈ gWords := g_t2 205 rfl rfl
theorem md_L_file : yL_file.cls ≠ "java/lang/invoke/MethodHandle" ∧ yL_file.cls ≠ "java/lang/invoke/VarHandle" ∧ (parseMethodDescriptor yL_file.desc).map (fun d => d.parameters.length) = some 3 := by decide +kernel
set_option maxRecDepth 4000 in
theorem ms_L_file : gStat yL_file := g_t2 204 rfl rfl
set_option maxRecDepth 4000 in
theorem mh_L_veil : Cond.codeWith yL_veil cL_veil 7 (some .int) [((0 : Nat), (14 : Nat), (17 : Nat), (24 : Nat)), ((0 : Nat), (14 : Nat), (21 : Nat), (19 : Nat))] ∈ gWords := g_t3 154 rfl rfl
theorem md_L_veil : yL_veil.cls ≠ "java/lang/invoke/MethodHandle" ∧ yL_veil.cls ≠ "java/lang/invoke/VarHandle" ∧ (parseMethodDescriptor yL_veil.desc).map (fun d => d.parameters.length) = some 6 := by decide +kernel
set_option maxRecDepth 4000 in
theorem ms_L_veil : gStat yL_veil := g_t3 153 rfl rfl
set_option maxRecDepth 4000 in
theorem mh_L_document : Cond.codeWith yL_document cL_document 5 (some .int) [((0 : Nat), (10 : Nat), (13 : Nat), (24 : Nat))] ∈ gWords := g_t3 178 rfl rfl
theorem md_L_document : yL_document.cls ≠ "java/lang/invoke/MethodHandle" ∧ yL_document.cls ≠ "java/lang/invoke/VarHandle" ∧ (parseMethodDescriptor yL_document.desc).map (fun d => d.parameters.length) = some 4 := by decide +kernel
set_option maxRecDepth 4000 in
theorem ms_L_document : gStat yL_document := g_t3 177 rfl rfl
set_option maxRecDepth 4000 in
theorem mh_L_open : Cond.codeWith yL_open cL_open 4 (some .int) [((0 : Nat), (9 : Nat), (12 : Nat), (19 : Nat)), ((0 : Nat), (9 : Nat), (15 : Nat), (13 : Nat))] ∈ gWords := g_t3 186 rfl rfl
theorem md_L_open : yL_open.cls ≠ "java/lang/invoke/MethodHandle" ∧ yL_open.cls ≠ "java/lang/invoke/VarHandle" ∧ (parseMethodDescriptor yL_open.desc).map (fun d => d.parameters.length) = some 3 := by decide +kernel
set_option maxRecDepth 4000 in
theorem ms_L_open : gStat yL_open := g_t3 185 rfl rfl
set_option maxRecDepth 4000 in
theorem mh_L_seal : Cond.codeWith yL_seal cL_seal 5 (some .int) [((0 : Nat), (10 : Nat), (13 : Nat), (24 : Nat)), ((0 : Nat), (10 : Nat), (17 : Nat), (19 : Nat))] ∈ gWords := g_t3 211 rfl rfl
theorem md_L_seal : yL_seal.cls ≠ "java/lang/invoke/MethodHandle" ∧ yL_seal.cls ≠ "java/lang/invoke/VarHandle" ∧ (parseMethodDescriptor yL_seal.desc).map (fun d => d.parameters.length) = some 4 := by decide +kernel
set_option maxRecDepth 4000 in
theorem ms_L_seal : gStat yL_seal := g_t3 210 rfl rfl
set_option maxRecDepth 4000 in
theorem mh_L_addPerson : Cond.codeWith yL_addPerson cL_addPerson 5 (some .int) [((0 : Nat), (10 : Nat), (13 : Nat), (19 : Nat)), ((0 : Nat), (10 : Nat), (17 : Nat), (13 : Nat))] ∈ gWords := g_t3 218 rfl rfl
theorem md_L_addPerson : yL_addPerson.cls ≠ "java/lang/invoke/MethodHandle" ∧ yL_addPerson.cls ≠ "java/lang/invoke/VarHandle" ∧ (parseMethodDescriptor yL_addPerson.desc).map (fun d => d.parameters.length) = some 4 := by decide +kernel
set_option maxRecDepth 4000 in
theorem ms_L_addPerson : gStat yL_addPerson := g_t3 217 rfl rfl
set_option maxRecDepth 4000 in
theorem mh_L_attach : Cond.codeWith yL_attach cL_attach 5 (some .int) [((0 : Nat), (17 : Nat), (20 : Nat), (24 : Nat))] ∈ gWords := g_t4 16 rfl rfl
theorem md_L_attach : yL_attach.cls ≠ "java/lang/invoke/MethodHandle" ∧ yL_attach.cls ≠ "java/lang/invoke/VarHandle" ∧ (parseMethodDescriptor yL_attach.desc).map (fun d => d.parameters.length) = some 4 := by decide +kernel
set_option maxRecDepth 4000 in
theorem ms_L_attach : gStat yL_attach := g_t4 15 rfl rfl
set_option maxRecDepth 4000 in
theorem mh_L_person : Cond.codeWith yL_person cL_person 5 (some .int) [((0 : Nat), (10 : Nat), (13 : Nat), (24 : Nat))] ∈ gWords := g_t4 29 rfl rfl
theorem md_L_person : yL_person.cls ≠ "java/lang/invoke/MethodHandle" ∧ yL_person.cls ≠ "java/lang/invoke/VarHandle" ∧ (parseMethodDescriptor yL_person.desc).map (fun d => d.parameters.length) = some 4 := by decide +kernel
set_option maxRecDepth 4000 in
theorem ms_L_person : gStat yL_person := g_t4 28 rfl rfl
set_option maxRecDepth 4000 in
theorem mh_L_caseOf : Cond.codeWith yL_caseOf cL_caseOf 5 (some .int) [((0 : Nat), (10 : Nat), (13 : Nat), (24 : Nat))] ∈ gWords := g_t4 37 rfl rfl
theorem md_L_caseOf : yL_caseOf.cls ≠ "java/lang/invoke/MethodHandle" ∧ yL_caseOf.cls ≠ "java/lang/invoke/VarHandle" ∧ (parseMethodDescriptor yL_caseOf.desc).map (fun d => d.parameters.length) = some 4 := by decide +kernel
set_option maxRecDepth 4000 in
theorem ms_L_caseOf : gStat yL_caseOf := g_t4 36 rfl rfl
set_option maxRecDepth 4000 in
theorem mh_L_read : Cond.codeWith yL_read cL_read 5 (some .int) [((0 : Nat), (10 : Nat), (13 : Nat), (24 : Nat))] ∈ gWords := g_t4 45 rfl rfl
theorem md_L_read : yL_read.cls ≠ "java/lang/invoke/MethodHandle" ∧ yL_read.cls ≠ "java/lang/invoke/VarHandle" ∧ (parseMethodDescriptor yL_read.desc).map (fun d => d.parameters.length) = some 4 := by decide +kernel
set_option maxRecDepth 4000 in
theorem ms_L_read : gStat yL_read := g_t4 44 rfl rfl
set_option maxRecDepth 4000 in
theorem mh_L_byteAt : Cond.codeWith yL_byteAt cL_byteAt 4 (some .int) [((0 : Nat), (9 : Nat), (12 : Nat), (24 : Nat))] ∈ gWords := g_t4 71 rfl rfl
theorem md_L_byteAt : yL_byteAt.cls ≠ "java/lang/invoke/MethodHandle" ∧ yL_byteAt.cls ≠ "java/lang/invoke/VarHandle" ∧ (parseMethodDescriptor yL_byteAt.desc).map (fun d => d.parameters.length) = some 3 := by decide +kernel
set_option maxRecDepth 4000 in
theorem ms_L_byteAt : gStat yL_byteAt := g_t4 70 rfl rfl
set_option maxRecDepth 4000 in
theorem mh_L_hidden : Cond.codeWith yL_hidden cL_hidden 5 (some .int) [((0 : Nat), (10 : Nat), (13 : Nat), (24 : Nat))] ∈ gWords := g_t4 79 rfl rfl
theorem md_L_hidden : yL_hidden.cls ≠ "java/lang/invoke/MethodHandle" ∧ yL_hidden.cls ≠ "java/lang/invoke/VarHandle" ∧ (parseMethodDescriptor yL_hidden.desc).map (fun d => d.parameters.length) = some 4 := by decide +kernel
set_option maxRecDepth 4000 in
theorem ms_L_hidden : gStat yL_hidden := g_t4 78 rfl rfl
set_option maxRecDepth 4000 in
theorem mh_L_differs : Cond.codeWith yL_differs cL_differs 6 (some .int) [((0 : Nat), (12 : Nat), (15 : Nat), (24 : Nat))] ∈ gWords := g_t4 94 rfl rfl
theorem md_L_differs : yL_differs.cls ≠ "java/lang/invoke/MethodHandle" ∧ yL_differs.cls ≠ "java/lang/invoke/VarHandle" ∧ (parseMethodDescriptor yL_differs.desc).map (fun d => d.parameters.length) = some 5 := by decide +kernel
set_option maxRecDepth 4000 in
theorem ms_L_differs : gStat yL_differs := g_t4 93 rfl rfl
set_option maxRecDepth 4000 in
theorem mh_L_find : Cond.codeWith yL_find cL_find 5 (some .int) [((0 : Nat), (10 : Nat), (13 : Nat), (24 : Nat))] ∈ gWords := g_t4 101 rfl rfl
theorem md_L_find : yL_find.cls ≠ "java/lang/invoke/MethodHandle" ∧ yL_find.cls ≠ "java/lang/invoke/VarHandle" ∧ (parseMethodDescriptor yL_find.desc).map (fun d => d.parameters.length) = some 4 := by decide +kernel
set_option maxRecDepth 4000 in
theorem ms_L_find : gStat yL_find := g_t4 100 rfl rfl
set_option maxRecDepth 4000 in
theorem mh_L_least : Cond.codeWith yL_least cL_least 6 (some .int) [((0 : Nat), (12 : Nat), (15 : Nat), (24 : Nat)), ((0 : Nat), (12 : Nat), (19 : Nat), (19 : Nat))] ∈ gWords := g_t4 112 rfl rfl
theorem md_L_least : yL_least.cls ≠ "java/lang/invoke/MethodHandle" ∧ yL_least.cls ≠ "java/lang/invoke/VarHandle" ∧ (parseMethodDescriptor yL_least.desc).map (fun d => d.parameters.length) = some 5 := by decide +kernel
set_option maxRecDepth 4000 in
theorem ms_L_least : gStat yL_least := g_t4 111 rfl rfl
set_option maxRecDepth 4000 in
theorem mh_L_lend : Cond.codeWith yL_lend cL_lend 6 (some .int) [((0 : Nat), (12 : Nat), (15 : Nat), (24 : Nat)), ((0 : Nat), (12 : Nat), (19 : Nat), (19 : Nat)), ((0 : Nat), (12 : Nat), (23 : Nat), (13 : Nat))] ∈ gWords := g_t4 120 rfl rfl
theorem md_L_lend : yL_lend.cls ≠ "java/lang/invoke/MethodHandle" ∧ yL_lend.cls ≠ "java/lang/invoke/VarHandle" ∧ (parseMethodDescriptor yL_lend.desc).map (fun d => d.parameters.length) = some 5 := by decide +kernel
set_option maxRecDepth 4000 in
theorem ms_L_lend : gStat yL_lend := g_t4 119 rfl rfl
set_option maxRecDepth 4000 in
theorem mh_L_back : Cond.codeWith yL_back cL_back 4 (some .int) [((0 : Nat), (9 : Nat), (12 : Nat), (24 : Nat))] ∈ gWords := g_t4 130 rfl rfl
theorem md_L_back : yL_back.cls ≠ "java/lang/invoke/MethodHandle" ∧ yL_back.cls ≠ "java/lang/invoke/VarHandle" ∧ (parseMethodDescriptor yL_back.desc).map (fun d => d.parameters.length) = some 3 := by decide +kernel
set_option maxRecDepth 4000 in
theorem ms_L_back : gStat yL_back := g_t4 129 rfl rfl
set_option maxRecDepth 4000 in
theorem mh_L_takeIn : Cond.codeWith yL_takeIn cL_takeIn 4 (some .int) [((0 : Nat), (9 : Nat), (12 : Nat), (24 : Nat)), ((0 : Nat), (9 : Nat), (15 : Nat), (13 : Nat))] ∈ gWords := g_t4 141 rfl rfl
theorem md_L_takeIn : yL_takeIn.cls ≠ "java/lang/invoke/MethodHandle" ∧ yL_takeIn.cls ≠ "java/lang/invoke/VarHandle" ∧ (parseMethodDescriptor yL_takeIn.desc).map (fun d => d.parameters.length) = some 3 := by decide +kernel
set_option maxRecDepth 4000 in
theorem ms_L_takeIn : gStat yL_takeIn := g_t4 140 rfl rfl
set_option maxRecDepth 4000 in
theorem mh_L_hand : Cond.codeWith yL_hand cL_hand 5 (some .int) [((0 : Nat), (10 : Nat), (13 : Nat), (24 : Nat)), ((0 : Nat), (10 : Nat), (17 : Nat), (13 : Nat))] ∈ gWords := g_t4 181 rfl rfl
theorem md_L_hand : yL_hand.cls ≠ "java/lang/invoke/MethodHandle" ∧ yL_hand.cls ≠ "java/lang/invoke/VarHandle" ∧ (parseMethodDescriptor yL_hand.desc).map (fun d => d.parameters.length) = some 4 := by decide +kernel
set_option maxRecDepth 4000 in
theorem ms_L_hand : gStat yL_hand := g_t4 180 rfl rfl
set_option maxRecDepth 4000 in
theorem mh_L_unseal : Cond.codeWith yL_unseal cL_unseal 4 (some .int) [((0 : Nat), (9 : Nat), (12 : Nat), (24 : Nat)), ((0 : Nat), (9 : Nat), (15 : Nat), (13 : Nat))] ∈ gWords := g_t4 227 rfl rfl
theorem md_L_unseal : yL_unseal.cls ≠ "java/lang/invoke/MethodHandle" ∧ yL_unseal.cls ≠ "java/lang/invoke/VarHandle" ∧ (parseMethodDescriptor yL_unseal.desc).map (fun d => d.parameters.length) = some 3 := by decide +kernel
set_option maxRecDepth 4000 in
theorem ms_L_unseal : gStat yL_unseal := g_t4 226 rfl rfl
set_option maxRecDepth 4000 in
theorem mh_L_lose : Cond.codeWith yL_lose cL_lose 4 (some .int) [((0 : Nat), (9 : Nat), (12 : Nat), (24 : Nat)), ((0 : Nat), (9 : Nat), (15 : Nat), (13 : Nat))] ∈ gWords := g_t4 236 rfl rfl
theorem md_L_lose : yL_lose.cls ≠ "java/lang/invoke/MethodHandle" ∧ yL_lose.cls ≠ "java/lang/invoke/VarHandle" ∧ (parseMethodDescriptor yL_lose.desc).map (fun d => d.parameters.length) = some 3 := by decide +kernel
set_option maxRecDepth 4000 in
theorem ms_L_lose : gStat yL_lose := g_t4 235 rfl rfl
set_option maxRecDepth 4000 in
theorem mh_L_found : Cond.codeWith yL_found cL_found 5 (some .int) [((0 : Nat), (10 : Nat), (13 : Nat), (24 : Nat)), ((0 : Nat), (10 : Nat), (17 : Nat), (13 : Nat))] ∈ gWords := g_t5 4 rfl rfl
theorem md_L_found : yL_found.cls ≠ "java/lang/invoke/MethodHandle" ∧ yL_found.cls ≠ "java/lang/invoke/VarHandle" ∧ (parseMethodDescriptor yL_found.desc).map (fun d => d.parameters.length) = some 4 := by decide +kernel
set_option maxRecDepth 4000 in
theorem ms_L_found : gStat yL_found := g_t5 3 rfl rfl
set_option maxRecDepth 4000 in
theorem mh_L_exhibit : Cond.codeWith yL_exhibit cL_exhibit 5 (some .int) [((0 : Nat), (10 : Nat), (13 : Nat), (24 : Nat))] ∈ gWords := g_t5 12 rfl rfl
theorem md_L_exhibit : yL_exhibit.cls ≠ "java/lang/invoke/MethodHandle" ∧ yL_exhibit.cls ≠ "java/lang/invoke/VarHandle" ∧ (parseMethodDescriptor yL_exhibit.desc).map (fun d => d.parameters.length) = some 4 := by decide +kernel
set_option maxRecDepth 4000 in
theorem ms_L_exhibit : gStat yL_exhibit := g_t5 11 rfl rfl
set_option maxRecDepth 4000 in
theorem mh_L_link : Cond.codeWith yL_link cL_link 6 (some .int) [((0 : Nat), (12 : Nat), (15 : Nat), (24 : Nat))] ∈ gWords := g_t5 20 rfl rfl
theorem md_L_link : yL_link.cls ≠ "java/lang/invoke/MethodHandle" ∧ yL_link.cls ≠ "java/lang/invoke/VarHandle" ∧ (parseMethodDescriptor yL_link.desc).map (fun d => d.parameters.length) = some 5 := by decide +kernel
set_option maxRecDepth 4000 in
theorem ms_L_link : gStat yL_link := g_t5 19 rfl rfl
set_option maxRecDepth 4000 in
theorem mh_L_send : Cond.codeWith yL_send cL_send 6 (some .int) [((0 : Nat), (12 : Nat), (15 : Nat), (24 : Nat)), ((0 : Nat), (12 : Nat), (19 : Nat), (19 : Nat)), ((0 : Nat), (12 : Nat), (23 : Nat), (13 : Nat))] ∈ gWords := g_t5 28 rfl rfl
theorem md_L_send : yL_send.cls ≠ "java/lang/invoke/MethodHandle" ∧ yL_send.cls ≠ "java/lang/invoke/VarHandle" ∧ (parseMethodDescriptor yL_send.desc).map (fun d => d.parameters.length) = some 5 := by decide +kernel
set_option maxRecDepth 4000 in
theorem ms_L_send : gStat yL_send := g_t5 27 rfl rfl
set_option maxRecDepth 4000 in
theorem mh_L_letter : Cond.codeWith yL_letter cL_letter 5 (some .int) [((0 : Nat), (10 : Nat), (13 : Nat), (24 : Nat))] ∈ gWords := g_t5 67 rfl rfl
theorem md_L_letter : yL_letter.cls ≠ "java/lang/invoke/MethodHandle" ∧ yL_letter.cls ≠ "java/lang/invoke/VarHandle" ∧ (parseMethodDescriptor yL_letter.desc).map (fun d => d.parameters.length) = some 4 := by decide +kernel
set_option maxRecDepth 4000 in
theorem ms_L_letter : gStat yL_letter := g_t5 66 rfl rfl
set_option maxRecDepth 4000 in
theorem mh_L_pass : Cond.codeWith yL_pass cL_pass 4 (some .int) [((0 : Nat), (9 : Nat), (12 : Nat), (19 : Nat))] ∈ gWords := g_t5 79 rfl rfl
theorem md_L_pass : yL_pass.cls ≠ "java/lang/invoke/MethodHandle" ∧ yL_pass.cls ≠ "java/lang/invoke/VarHandle" ∧ (parseMethodDescriptor yL_pass.desc).map (fun d => d.parameters.length) = some 3 := by decide +kernel
set_option maxRecDepth 4000 in
theorem ms_L_pass : gStat yL_pass := g_t5 78 rfl rfl
set_option maxRecDepth 4000 in
theorem mh_L_arrives : Cond.codeWith yL_arrives cL_arrives 4 (some .int) [((0 : Nat), (9 : Nat), (12 : Nat), (24 : Nat))] ∈ gWords := g_t5 112 rfl rfl
theorem md_L_arrives : yL_arrives.cls ≠ "java/lang/invoke/MethodHandle" ∧ yL_arrives.cls ≠ "java/lang/invoke/VarHandle" ∧ (parseMethodDescriptor yL_arrives.desc).map (fun d => d.parameters.length) = some 3 := by decide +kernel
set_option maxRecDepth 4000 in
theorem ms_L_arrives : gStat yL_arrives := g_t5 111 rfl rfl
set_option maxRecDepth 4000 in
theorem mh_L_count : Cond.codeWith yL_count cL_count 4 (some .int) [((0 : Nat), (9 : Nat), (12 : Nat), (24 : Nat))] ∈ gWords := g_t5 130 rfl rfl
theorem md_L_count : yL_count.cls ≠ "java/lang/invoke/MethodHandle" ∧ yL_count.cls ≠ "java/lang/invoke/VarHandle" ∧ (parseMethodDescriptor yL_count.desc).map (fun d => d.parameters.length) = some 3 := by decide +kernel
set_option maxRecDepth 4000 in
theorem ms_L_count : gStat yL_count := g_t5 129 rfl rfl
set_option maxRecDepth 4000 in
theorem mh_L_sees : Cond.codeWith yL_sees cL_sees 4 (some .int) [((0 : Nat), (9 : Nat), (12 : Nat), (24 : Nat))] ∈ gWords := g_t5 138 rfl rfl
theorem md_L_sees : yL_sees.cls ≠ "java/lang/invoke/MethodHandle" ∧ yL_sees.cls ≠ "java/lang/invoke/VarHandle" ∧ (parseMethodDescriptor yL_sees.desc).map (fun d => d.parameters.length) = some 3 := by decide +kernel
set_option maxRecDepth 4000 in
theorem ms_L_sees : gStat yL_sees := g_t5 137 rfl rfl
