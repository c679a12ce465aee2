theorem mt_X7_init : gMeth yX7_init cX7_init 1 none 0 := ⟨g_t 31 (by decide +kernel) (by decide +kernel), g_t 1 (by decide +kernel) (by decide +kernel), by decide +kernel, by decide⟩
theorem mi_X7_init : gCtor yX7_init := ⟨g_t 30 (by decide +kernel) (by decide +kernel), rfl⟩
theorem mt_Jx4a65c_init_da8c8 : gMeth yJx4a65c_init_da8c8 cJx4a65c_init_da8c8 1 none 0 := ⟨g_t 39 (by decide +kernel) (by decide +kernel), g_t 4 (by decide +kernel) (by decide +kernel), by decide +kernel, by decide⟩
theorem mi_Jx4a65c_init_da8c8 : gCtor yJx4a65c_init_da8c8 := ⟨g_t 38 (by decide +kernel) (by decide +kernel), rfl⟩
theorem mt_Jxc12de_init_da8c8 : gMeth yJxc12de_init_da8c8 cJxc12de_init_da8c8 1 none 0 := ⟨g_t 42 (by decide +kernel) (by decide +kernel), g_t 3 (by decide +kernel) (by decide +kernel), by decide +kernel, by decide⟩
theorem mi_Jxc12de_init_da8c8 : gCtor yJxc12de_init_da8c8 := ⟨g_t 41 (by decide +kernel) (by decide +kernel), rfl⟩
theorem mt_Jxa1e45_init_da8c8 : gMeth yJxa1e45_init_da8c8 cJxa1e45_init_da8c8 1 none 0 := ⟨g_t 45 (by decide +kernel) (by decide +kernel), g_t 2 (by decide +kernel) (by decide +kernel), by decide +kernel, by decide⟩
theorem mi_Jxa1e45_init_da8c8 : gCtor yJxa1e45_init_da8c8 := ⟨g_t 44 (by decide +kernel) (by decide +kernel), rfl⟩
theorem mt_X2_init : gMeth yX2_init cX2_init 1 none 0 := ⟨g_t 65 (by decide +kernel) (by decide +kernel), g_t 5 (by decide +kernel) (by decide +kernel), by decide +kernel, by decide⟩
theorem mi_X2_init : gCtor yX2_init := ⟨g_t 64 (by decide +kernel) (by decide +kernel), rfl⟩
theorem mt_X7_errorAt : gMeth yX7_errorAt cX7_errorAt 1 (some .int) 0 := ⟨g_t 158 (by decide +kernel) (by decide +kernel), g_t 1 (by decide +kernel) (by decide +kernel), by decide +kernel, by decide⟩
theorem mi_X7_errorAt : gInst yX7_errorAt := ⟨g_t 156 (by decide +kernel) (by decide +kernel), g_t 157 (by decide +kernel) (by decide +kernel)⟩
theorem mt_X7_plain : gMeth yX7_plain cX7_plain 4 (some .double) 0 := ⟨g_t 162 (by decide +kernel) (by decide +kernel), g_t 1 (by decide +kernel) (by decide +kernel), by decide +kernel, by decide⟩
theorem mi_X7_plain : gInst yX7_plain := ⟨g_t 160 (by decide +kernel) (by decide +kernel), g_t 161 (by decide +kernel) (by decide +kernel)⟩
theorem mt_Jx4a65c_size_8abf5 : gMeth yJx4a65c_size_8abf5 cJx4a65c_size_8abf5 1 (some .int) 0 := ⟨g_t 166 (by decide +kernel) (by decide +kernel), g_t 4 (by decide +kernel) (by decide +kernel), by decide +kernel, by decide⟩
theorem mi_Jx4a65c_size_8abf5 : gInst yJx4a65c_size_8abf5 := ⟨g_t 164 (by decide +kernel) (by decide +kernel), g_t 165 (by decide +kernel) (by decide +kernel)⟩
theorem mt_Jx4a65c_get_915e3 : gMeth yJx4a65c_get_915e3 cJx4a65c_get_915e3 2 (some (.object "java/lang/Object")) 1 := ⟨g_t 170 (by decide +kernel) (by decide +kernel), g_t 4 (by decide +kernel) (by decide +kernel), by decide +kernel, by decide⟩
theorem mi_Jx4a65c_get_915e3 : gInst yJx4a65c_get_915e3 := ⟨g_t 168 (by decide +kernel) (by decide +kernel), g_t 169 (by decide +kernel) (by decide +kernel)⟩
theorem mt_J15_checkIndex_7cf53 : gMeth yJ15_checkIndex_7cf53 cJ15_checkIndex_7cf53 2 (some .int) 2 := ⟨g_t 173 (by decide +kernel) (by decide +kernel), g_t 13 (by decide +kernel) (by decide +kernel), by decide +kernel, by decide⟩
theorem ms_J15_checkIndex_7cf53 : gStat yJ15_checkIndex_7cf53 := g_t 172 (by decide +kernel) (by decide +kernel)
theorem mt_J3_checkIndex_8e157 : gMeth yJ3_checkIndex_8e157 cJ3_checkIndex_8e157 3 (some .int) 3 := ⟨g_t 176 (by decide +kernel) (by decide +kernel), g_t 14 (by decide +kernel) (by decide +kernel), by decide +kernel, by decide⟩
theorem ms_J3_checkIndex_8e157 : gStat yJ3_checkIndex_8e157 := g_t 175 (by decide +kernel) (by decide +kernel)
theorem mt_Jx4a65c_elementData_915e3 : gMeth yJx4a65c_elementData_915e3 cJx4a65c_elementData_915e3 2 (some (.object "java/lang/Object")) 1 := ⟨g_t 180 (by decide +kernel) (by decide +kernel), g_t 4 (by decide +kernel) (by decide +kernel), by decide +kernel, by decide⟩
theorem mi_Jx4a65c_elementData_915e3 : gInst yJx4a65c_elementData_915e3 := ⟨g_t 178 (by decide +kernel) (by decide +kernel), g_t 179 (by decide +kernel) (by decide +kernel)⟩
theorem mt_X1_countVeiled : gMeth yX1_countVeiled cX1_countVeiled 3 (some .int) 0 := ⟨g_t 185 (by decide +kernel) (by decide +kernel), g_t 17 (by decide +kernel) (by decide +kernel), by decide +kernel, by decide⟩
theorem mi_X1_countVeiled : gInst yX1_countVeiled := ⟨g_t 183 (by decide +kernel) (by decide +kernel), g_t 184 (by decide +kernel) (by decide +kernel)⟩
theorem mt_X7_digest : gMeth yX7_digest cX7_digest 4 (some .long) 0 := ⟨g_t 189 (by decide +kernel) (by decide +kernel), g_t 1 (by decide +kernel) (by decide +kernel), by decide +kernel, by decide⟩
theorem mi_X7_digest : gInst yX7_digest := ⟨g_t 187 (by decide +kernel) (by decide +kernel), g_t 188 (by decide +kernel) (by decide +kernel)⟩
theorem mt_X7_tellCount : gMeth yX7_tellCount cX7_tellCount 2 (some .int) 1 := ⟨g_t 195 (by decide +kernel) (by decide +kernel), g_t 1 (by decide +kernel) (by decide +kernel), by decide +kernel, by decide⟩
theorem mi_X7_tellCount : gInst yX7_tellCount := ⟨g_t 194 (by decide +kernel) (by decide +kernel), g_p 0 (q := (⟨"CourtMail", "tellCount", "(I)I"⟩, 12)) (by decide +kernel) (by decide +kernel)⟩
theorem mt_X7_countLetters : gMeth yX7_countLetters cX7_countLetters 4 (some .int) 1 := ⟨g_t 199 (by decide +kernel) (by decide +kernel), g_t 1 (by decide +kernel) (by decide +kernel), by decide +kernel, by decide⟩
theorem mi_X7_countLetters : gInst yX7_countLetters := ⟨g_t 198 (by decide +kernel) (by decide +kernel), g_p 1 (q := (⟨"CourtMail", "countLetters", "(I)I"⟩, 12)) (by decide +kernel) (by decide +kernel)⟩
theorem mt_X7_countLost : gMeth yX7_countLost cX7_countLost 3 (some .int) 0 := ⟨g_t 204 (by decide +kernel) (by decide +kernel), g_t 1 (by decide +kernel) (by decide +kernel), by decide +kernel, by decide⟩
theorem mi_X7_countLost : gInst yX7_countLost := ⟨g_t 203 (by decide +kernel) (by decide +kernel), g_p 2 (q := (⟨"CourtMail", "countLost", "()I"⟩, 12)) (by decide +kernel) (by decide +kernel)⟩
theorem mt_X7_countLent : gMeth yX7_countLent cX7_countLent 3 (some .int) 0 := ⟨g_t 209 (by decide +kernel) (by decide +kernel), g_t 1 (by decide +kernel) (by decide +kernel), by decide +kernel, by decide⟩
theorem mi_X7_countLent : gInst yX7_countLent := ⟨g_t 208 (by decide +kernel) (by decide +kernel), g_p 3 (q := (⟨"CourtMail", "countLent", "()I"⟩, 12)) (by decide +kernel) (by decide +kernel)⟩
theorem mt_X7_digestCases : gMeth yX7_digestCases cX7_digestCases 7 (some .long) 1 := ⟨g_t 213 (by decide +kernel) (by decide +kernel), g_t 1 (by decide +kernel) (by decide +kernel), by decide +kernel, by decide⟩
theorem mi_X7_digestCases : gInst yX7_digestCases := ⟨g_t 212 (by decide +kernel) (by decide +kernel), g_p 4 (q := (⟨"CourtMail", "digestCases", "(J)J"⟩, 12)) (by decide +kernel) (by decide +kernel)⟩
theorem mt_X7_tellCase : gMeth yX7_tellCase cX7_tellCase 3 (some .int) 2 := ⟨g_t 218 (by decide +kernel) (by decide +kernel), g_t 1 (by decide +kernel) (by decide +kernel), by decide +kernel, by decide⟩
theorem mi_X7_tellCase : gInst yX7_tellCase := ⟨g_t 217 (by decide +kernel) (by decide +kernel), g_p 5 (q := (⟨"CourtMail", "tellCase", "(LCourtMail$Case;I)I"⟩, 12)) (by decide +kernel) (by decide +kernel)⟩
theorem mt_X7_countDocumentsOf : gMeth yX7_countDocumentsOf cX7_countDocumentsOf 4 (some .int) 1 := ⟨g_t 222 (by decide +kernel) (by decide +kernel), g_t 1 (by decide +kernel) (by decide +kernel), by decide +kernel, by decide⟩
theorem mi_X7_countDocumentsOf : gInst yX7_countDocumentsOf := ⟨g_t 221 (by decide +kernel) (by decide +kernel), g_p 6 (q := (⟨"CourtMail", "countDocumentsOf", "(LCourtMail$Case;)I"⟩, 12)) (by decide +kernel) (by decide +kernel)⟩
theorem mt_X7_exhibitsOf : gMeth yX7_exhibitsOf cX7_exhibitsOf 4 (some .int) 1 := ⟨g_t 226 (by decide +kernel) (by decide +kernel), g_t 1 (by decide +kernel) (by decide +kernel), by decide +kernel, by decide⟩
theorem mi_X7_exhibitsOf : gInst yX7_exhibitsOf := ⟨g_t 225 (by decide +kernel) (by decide +kernel), g_p 7 (q := (⟨"CourtMail", "exhibitsOf", "(LCourtMail$Case;)I"⟩, 12)) (by decide +kernel) (by decide +kernel)⟩
theorem mt_J6_bitCount_0f7a4 : gMeth yJ6_bitCount_0f7a4 cJ6_bitCount_0f7a4 1 (some .int) 1 := ⟨g_t 229 (by decide +kernel) (by decide +kernel), g_t 23 (by decide +kernel) (by decide +kernel), by decide +kernel, by decide⟩
theorem ms_J6_bitCount_0f7a4 : gStat yJ6_bitCount_0f7a4 := g_t 228 (by decide +kernel) (by decide +kernel)
theorem mt_X7_countAdmitted : gMeth yX7_countAdmitted cX7_countAdmitted 5 (some .int) 1 := ⟨g_t 236 (by decide +kernel) (by decide +kernel), g_t 1 (by decide +kernel) (by decide +kernel), by decide +kernel, by decide⟩
theorem mi_X7_countAdmitted : gInst yX7_countAdmitted := ⟨g_t 235 (by decide +kernel) (by decide +kernel), g_p 8 (q := (⟨"CourtMail", "countAdmitted", "(LCourtMail$Case;)I"⟩, 12)) (by decide +kernel) (by decide +kernel)⟩
theorem mt_X3_canBeAdmitted : gMeth yX3_canBeAdmitted cX3_canBeAdmitted 2 (some .boolean) 0 := ⟨g_t 240 (by decide +kernel) (by decide +kernel), g_t 24 (by decide +kernel) (by decide +kernel), by decide +kernel, by decide⟩
theorem mi_X3_canBeAdmitted : gInst yX3_canBeAdmitted := ⟨g_t 238 (by decide +kernel) (by decide +kernel), g_t 239 (by decide +kernel) (by decide +kernel)⟩
theorem mt_X5_taints : gMeth yX5_taints cX5_taints 1 (some .boolean) 0 := ⟨g_t 247 (by decide +kernel) (by decide +kernel), g_t 25 (by decide +kernel) (by decide +kernel), by decide +kernel, by decide⟩
theorem mi_X5_taints : gInst yX5_taints := ⟨g_t 245 (by decide +kernel) (by decide +kernel), g_t 246 (by decide +kernel) (by decide +kernel)⟩
theorem mt_X7_countWhoSeeInto : gMeth yX7_countWhoSeeInto cX7_countWhoSeeInto 4 (some .int) 1 := ⟨g_t 251 (by decide +kernel) (by decide +kernel), g_t 1 (by decide +kernel) (by decide +kernel), by decide +kernel, by decide⟩
theorem mi_X7_countWhoSeeInto : gInst yX7_countWhoSeeInto := ⟨g_t 250 (by decide +kernel) (by decide +kernel), g_p 9 (q := (⟨"CourtMail", "countWhoSeeInto", "(LCourtMail$Case;)I"⟩, 12)) (by decide +kernel) (by decide +kernel)⟩
theorem mt_X6_canSeeInto : gMeth yX6_canSeeInto cX6_canSeeInto 2 (some .boolean) 1 := ⟨g_t 256 (by decide +kernel) (by decide +kernel), g_t 22 (by decide +kernel) (by decide +kernel), by decide +kernel, by decide⟩
theorem mi_X6_canSeeInto : gInst yX6_canSeeInto := ⟨g_t 254 (by decide +kernel) (by decide +kernel), g_t 255 (by decide +kernel) (by decide +kernel)⟩
theorem mt_X6_reachWith : gMeth yX6_reachWith cX6_reachWith 3 (some .int) 2 := ⟨g_t 260 (by decide +kernel) (by decide +kernel), g_t 22 (by decide +kernel) (by decide +kernel), by decide +kernel, by decide⟩
theorem mi_X6_reachWith : gInst yX6_reachWith := ⟨g_t 258 (by decide +kernel) (by decide +kernel), g_t 259 (by decide +kernel) (by decide +kernel)⟩
theorem mt_X6_isAttachedTo : gMeth yX6_isAttachedTo cX6_isAttachedTo 2 (some .boolean) 1 := ⟨g_t 264 (by decide +kernel) (by decide +kernel), g_t 22 (by decide +kernel) (by decide +kernel), by decide +kernel, by decide⟩
theorem mi_X6_isAttachedTo : gInst yX6_isAttachedTo := ⟨g_t 262 (by decide +kernel) (by decide +kernel), g_t 263 (by decide +kernel) (by decide +kernel)⟩
theorem mt_J9_min_7cf53 : gMeth yJ9_min_7cf53 cJ9_min_7cf53 2 (some .int) 2 := ⟨g_t 267 (by decide +kernel) (by decide +kernel), g_t 16 (by decide +kernel) (by decide +kernel), by decide +kernel, by decide⟩
theorem ms_J9_min_7cf53 : gStat yJ9_min_7cf53 := g_t 266 (by decide +kernel) (by decide +kernel)
theorem mt_X7_digestPeople : gMeth yX7_digestPeople cX7_digestPeople 7 (some .long) 1 := ⟨g_t 271 (by decide +kernel) (by decide +kernel), g_t 1 (by decide +kernel) (by decide +kernel), by decide +kernel, by decide⟩
theorem mi_X7_digestPeople : gInst yX7_digestPeople := ⟨g_t 270 (by decide +kernel) (by decide +kernel), g_p 10 (q := (⟨"CourtMail", "digestPeople", "(J)J"⟩, 12)) (by decide +kernel) (by decide +kernel)⟩
theorem mt_X7_tellPerson : gMeth yX7_tellPerson cX7_tellPerson 3 (some .int) 2 := ⟨g_t 275 (by decide +kernel) (by decide +kernel), g_t 1 (by decide +kernel) (by decide +kernel), by decide +kernel, by decide⟩
theorem mi_X7_tellPerson : gInst yX7_tellPerson := ⟨g_t 274 (by decide +kernel) (by decide +kernel), g_p 11 (q := (⟨"CourtMail", "tellPerson", "(LCourtMail$Person;I)I"⟩, 12)) (by decide +kernel) (by decide +kernel)⟩
theorem mt_X7_casesSeenBy : gMeth yX7_casesSeenBy cX7_casesSeenBy 4 (some .int) 1 := ⟨g_t 279 (by decide +kernel) (by decide +kernel), g_t 1 (by decide +kernel) (by decide +kernel), by decide +kernel, by decide⟩
theorem mi_X7_casesSeenBy : gInst yX7_casesSeenBy := ⟨g_t 278 (by decide +kernel) (by decide +kernel), g_p 12 (q := (⟨"CourtMail", "casesSeenBy", "(LCourtMail$Person;)I"⟩, 12)) (by decide +kernel) (by decide +kernel)⟩
theorem mt_X7_countOriginalsWith : gMeth yX7_countOriginalsWith cX7_countOriginalsWith 4 (some .int) 1 := ⟨g_t 283 (by decide +kernel) (by decide +kernel), g_t 1 (by decide +kernel) (by decide +kernel), by decide +kernel, by decide⟩
theorem mi_X7_countOriginalsWith : gInst yX7_countOriginalsWith := ⟨g_t 282 (by decide +kernel) (by decide +kernel), g_p 13 (q := (⟨"CourtMail", "countOriginalsWith", "(LCourtMail$Person;)I"⟩, 12)) (by decide +kernel) (by decide +kernel)⟩
theorem mt_X7_countExhibitsWith : gMeth yX7_countExhibitsWith cX7_countExhibitsWith 4 (some .int) 1 := ⟨g_t 287 (by decide +kernel) (by decide +kernel), g_t 1 (by decide +kernel) (by decide +kernel), by decide +kernel, by decide⟩
theorem mi_X7_countExhibitsWith : gInst yX7_countExhibitsWith := ⟨g_t 286 (by decide +kernel) (by decide +kernel), g_p 14 (q := (⟨"CourtMail", "countExhibitsWith", "(LCourtMail$Person;)I"⟩, 12)) (by decide +kernel) (by decide +kernel)⟩
theorem mt_X7_countDeliveredTo : gMeth yX7_countDeliveredTo cX7_countDeliveredTo 5 (some .int) 1 := ⟨g_t 291 (by decide +kernel) (by decide +kernel), g_t 1 (by decide +kernel) (by decide +kernel), by decide +kernel, by decide⟩
theorem mi_X7_countDeliveredTo : gInst yX7_countDeliveredTo := ⟨g_t 290 (by decide +kernel) (by decide +kernel), g_p 15 (q := (⟨"CourtMail", "countDeliveredTo", "(LCourtMail$Person;)I"⟩, 12)) (by decide +kernel) (by decide +kernel)⟩
theorem mt_X7_digestDocuments : gMeth yX7_digestDocuments cX7_digestDocuments 8 (some .long) 1 := ⟨g_t 295 (by decide +kernel) (by decide +kernel), g_t 1 (by decide +kernel) (by decide +kernel), by decide +kernel, by decide⟩
theorem mi_X7_digestDocuments : gInst yX7_digestDocuments := ⟨g_t 294 (by decide +kernel) (by decide +kernel), g_p 16 (q := (⟨"CourtMail", "digestDocuments", "(J)J"⟩, 12)) (by decide +kernel) (by decide +kernel)⟩
theorem mt_X7_tellDocument : gMeth yX7_tellDocument cX7_tellDocument 2 (some .int) 2 := ⟨g_t 298 (by decide +kernel) (by decide +kernel), g_t 1 (by decide +kernel) (by decide +kernel), by decide +kernel, by decide⟩
theorem ms_X7_tellDocument : gStat yX7_tellDocument := g_t 297 (by decide +kernel) (by decide +kernel)
theorem mt_X1_greatestLevel : gMeth yX1_greatestLevel cX1_greatestLevel 3 (some .int) 0 := ⟨g_t 302 (by decide +kernel) (by decide +kernel), g_t 17 (by decide +kernel) (by decide +kernel), by decide +kernel, by decide⟩
theorem mi_X1_greatestLevel : gInst yX1_greatestLevel := ⟨g_t 300 (by decide +kernel) (by decide +kernel), g_t 301 (by decide +kernel) (by decide +kernel)⟩
theorem mt_J9_max_7cf53 : gMeth yJ9_max_7cf53 cJ9_max_7cf53 2 (some .int) 2 := ⟨g_t 305 (by decide +kernel) (by decide +kernel), g_t 16 (by decide +kernel) (by decide +kernel), by decide +kernel, by decide⟩
theorem ms_J9_max_7cf53 : gStat yJ9_max_7cf53 := g_t 304 (by decide +kernel) (by decide +kernel)
theorem mt_X1_countMarked : gMeth yX1_countMarked cX1_countMarked 3 (some .int) 0 := ⟨g_t 309 (by decide +kernel) (by decide +kernel), g_t 17 (by decide +kernel) (by decide +kernel), by decide +kernel, by decide⟩
theorem mi_X1_countMarked : gInst yX1_countMarked := ⟨g_t 307 (by decide +kernel) (by decide +kernel), g_t 308 (by decide +kernel) (by decide +kernel)⟩
theorem mt_X7_numberOf : gMeth yX7_numberOf cX7_numberOf 1 (some .int) 1 := ⟨g_t 312 (by decide +kernel) (by decide +kernel), g_t 1 (by decide +kernel) (by decide +kernel), by decide +kernel, by decide⟩
theorem ms_X7_numberOf : gStat yX7_numberOf := g_t 311 (by decide +kernel) (by decide +kernel)
theorem mt_X7_digestExhibits : gMeth yX7_digestExhibits cX7_digestExhibits 9 (some .long) 1 := ⟨g_t 316 (by decide +kernel) (by decide +kernel), g_t 1 (by decide +kernel) (by decide +kernel), by decide +kernel, by decide⟩
theorem mi_X7_digestExhibits : gInst yX7_digestExhibits := ⟨g_t 315 (by decide +kernel) (by decide +kernel), g_p 17 (q := (⟨"CourtMail", "digestExhibits", "(J)J"⟩, 12)) (by decide +kernel) (by decide +kernel)⟩
theorem mt_X7_tellExhibit : gMeth yX7_tellExhibit cX7_tellExhibit 3 (some .int) 2 := ⟨g_t 320 (by decide +kernel) (by decide +kernel), g_t 1 (by decide +kernel) (by decide +kernel), by decide +kernel, by decide⟩
theorem mi_X7_tellExhibit : gInst yX7_tellExhibit := ⟨g_t 319 (by decide +kernel) (by decide +kernel), g_p 18 (q := (⟨"CourtMail", "tellExhibit", "(LCourtMail$Exhibit;I)I"⟩, 12)) (by decide +kernel) (by decide +kernel)⟩
theorem mt_X3_countGaps : gMeth yX3_countGaps cX3_countGaps 3 (some .int) 0 := ⟨g_t 324 (by decide +kernel) (by decide +kernel), g_t 24 (by decide +kernel) (by decide +kernel), by decide +kernel, by decide⟩
theorem mi_X3_countGaps : gInst yX3_countGaps := ⟨g_t 322 (by decide +kernel) (by decide +kernel), g_t 323 (by decide +kernel) (by decide +kernel)⟩
theorem mt_X7_countDocumentsThatMark : gMeth yX7_countDocumentsThatMark cX7_countDocumentsThatMark 4 (some .int) 1 := ⟨g_t 328 (by decide +kernel) (by decide +kernel), g_t 1 (by decide +kernel) (by decide +kernel), by decide +kernel, by decide⟩
theorem mi_X7_countDocumentsThatMark : gInst yX7_countDocumentsThatMark := ⟨g_t 327 (by decide +kernel) (by decide +kernel), g_p 19 (q := (⟨"CourtMail", "countDocumentsThatMark", "(LCourtMail$Exhibit;)I"⟩, 12)) (by decide +kernel) (by decide +kernel)⟩
theorem mt_X7_tellLink : gMeth yX7_tellLink cX7_tellLink 2 (some .int) 2 := ⟨g_t 332 (by decide +kernel) (by decide +kernel), g_t 1 (by decide +kernel) (by decide +kernel), by decide +kernel, by decide⟩
theorem ms_X7_tellLink : gStat yX7_tellLink := g_t 331 (by decide +kernel) (by decide +kernel)
theorem mt_X7_digestLetters : gMeth yX7_digestLetters cX7_digestLetters 7 (some .long) 1 := ⟨g_t 336 (by decide +kernel) (by decide +kernel), g_t 1 (by decide +kernel) (by decide +kernel), by decide +kernel, by decide⟩
theorem mi_X7_digestLetters : gInst yX7_digestLetters := ⟨g_t 335 (by decide +kernel) (by decide +kernel), g_p 20 (q := (⟨"CourtMail", "digestLetters", "(J)J"⟩, 12)) (by decide +kernel) (by decide +kernel)⟩
theorem mt_X7_tellLetter : gMeth yX7_tellLetter cX7_tellLetter 2 (some .int) 2 := ⟨g_t 339 (by decide +kernel) (by decide +kernel), g_t 1 (by decide +kernel) (by decide +kernel), by decide +kernel, by decide⟩
theorem ms_X7_tellLetter : gStat yX7_tellLetter := g_t 338 (by decide +kernel) (by decide +kernel)
theorem mt_X7_feed : gMeth yX7_feed cX7_feed 6 (some .int) 5 := ⟨g_t 347 (by decide +kernel) (by decide +kernel), g_t 1 (by decide +kernel) (by decide +kernel), by decide +kernel, by decide⟩
theorem mi_X7_feed : gInst yX7_feed := ⟨g_t 345 (by decide +kernel) (by decide +kernel), g_t 346 (by decide +kernel) (by decide +kernel)⟩
theorem mt_X7_append : gMeth yX7_append cX7_append 3 none 1 := ⟨g_t 418 (by decide +kernel) (by decide +kernel), g_t 1 (by decide +kernel) (by decide +kernel), by decide +kernel, by decide⟩
theorem mi_X7_append : gInst yX7_append := ⟨g_t 417 (by decide +kernel) (by decide +kernel), g_p 22 (q := (⟨"CourtMail", "append", "(I)V"⟩, 12)) (by decide +kernel) (by decide +kernel)⟩
theorem mt_X7_trim : gMeth yX7_trim cX7_trim 2 (some .int) 1 := ⟨g_t 426 (by decide +kernel) (by decide +kernel), g_t 1 (by decide +kernel) (by decide +kernel), by decide +kernel, by decide⟩
theorem mi_X7_trim : gInst yX7_trim := ⟨g_t 424 (by decide +kernel) (by decide +kernel), g_t 425 (by decide +kernel) (by decide +kernel)⟩
theorem mt_X7_file : gMeth yX7_file cX7_file 4 (some .int) 1 := ⟨g_t 450 (by decide +kernel) (by decide +kernel), g_t 1 (by decide +kernel) (by decide +kernel), by decide +kernel, by decide⟩
theorem mi_X7_file : gInst yX7_file := ⟨g_t 448 (by decide +kernel) (by decide +kernel), g_t 449 (by decide +kernel) (by decide +kernel)⟩
theorem mt_X7_caseAt : gMeth yX7_caseAt cX7_caseAt 2 (some (.object "CourtMail$Case")) 1 := ⟨g_t 454 (by decide +kernel) (by decide +kernel), g_t 1 (by decide +kernel) (by decide +kernel), by decide +kernel, by decide⟩
theorem mi_X7_caseAt : gInst yX7_caseAt := ⟨g_t 453 (by decide +kernel) (by decide +kernel), g_p 23 (q := (⟨"CourtMail", "caseAt", "(I)LCourtMail$Case;"⟩, 12)) (by decide +kernel) (by decide +kernel)⟩
theorem mt_X2_take : gMeth yX2_take cX2_take 5 (some .int) 3 := ⟨g_t 475 (by decide +kernel) (by decide +kernel), g_t 5 (by decide +kernel) (by decide +kernel), by decide +kernel, by decide⟩
theorem mi_X2_take : gInst yX2_take := ⟨g_t 473 (by decide +kernel) (by decide +kernel), g_t 474 (by decide +kernel) (by decide +kernel)⟩
theorem mt_X2_start : gMeth yX2_start cX2_start 2 none 1 := ⟨g_t 479 (by decide +kernel) (by decide +kernel), g_t 5 (by decide +kernel) (by decide +kernel), by decide +kernel, by decide⟩
theorem mi_X2_start : gInst yX2_start := ⟨g_t 478 (by decide +kernel) (by decide +kernel), g_p 24 (q := (⟨"CourtMail$Draft", "start", "(I)V"⟩, 14)) (by decide +kernel) (by decide +kernel)⟩
theorem mt_X2_takeByte : gMeth yX2_takeByte cX2_takeByte 3 (some .boolean) 2 := ⟨g_t 483 (by decide +kernel) (by decide +kernel), g_t 5 (by decide +kernel) (by decide +kernel), by decide +kernel, by decide⟩
theorem mi_X2_takeByte : gInst yX2_takeByte := ⟨g_t 482 (by decide +kernel) (by decide +kernel), g_p 25 (q := (⟨"CourtMail$Draft", "takeByte", "(II)Z"⟩, 14)) (by decide +kernel) (by decide +kernel)⟩
theorem mt_X2_takeLevel : gMeth yX2_takeLevel cX2_takeLevel 2 (some .boolean) 1 := ⟨g_t 487 (by decide +kernel) (by decide +kernel), g_t 5 (by decide +kernel) (by decide +kernel), by decide +kernel, by decide⟩
theorem mi_X2_takeLevel : gInst yX2_takeLevel := ⟨g_t 486 (by decide +kernel) (by decide +kernel), g_p 26 (q := (⟨"CourtMail$Draft", "takeLevel", "(I)Z"⟩, 14)) (by decide +kernel) (by decide +kernel)⟩
theorem mt_X2_takeColon : gMeth yX2_takeColon cX2_takeColon 2 (some .boolean) 1 := ⟨g_t 492 (by decide +kernel) (by decide +kernel), g_t 5 (by decide +kernel) (by decide +kernel), by decide +kernel, by decide⟩
theorem mi_X2_takeColon : gInst yX2_takeColon := ⟨g_t 491 (by decide +kernel) (by decide +kernel), g_p 27 (q := (⟨"CourtMail$Draft", "takeColon", "(I)Z"⟩, 14)) (by decide +kernel) (by decide +kernel)⟩
theorem mt_X2_takeNameByte : gMeth yX2_takeNameByte cX2_takeNameByte 2 (some .boolean) 1 := ⟨g_t 496 (by decide +kernel) (by decide +kernel), g_t 5 (by decide +kernel) (by decide +kernel), by decide +kernel, by decide⟩
theorem mi_X2_takeNameByte : gInst yX2_takeNameByte := ⟨g_t 495 (by decide +kernel) (by decide +kernel), g_p 28 (q := (⟨"CourtMail$Draft", "takeNameByte", "(I)Z"⟩, 14)) (by decide +kernel) (by decide +kernel)⟩
theorem mt_X2_isLetter : gMeth yX2_isLetter cX2_isLetter 1 (some .boolean) 1 := ⟨g_t 499 (by decide +kernel) (by decide +kernel), g_t 5 (by decide +kernel) (by decide +kernel), by decide +kernel, by decide⟩
theorem ms_X2_isLetter : gStat yX2_isLetter := g_t 498 (by decide +kernel) (by decide +kernel)
theorem mt_X2_put : gMeth yX2_put cX2_put 3 none 2 := ⟨g_t 503 (by decide +kernel) (by decide +kernel), g_t 5 (by decide +kernel) (by decide +kernel), by decide +kernel, by decide⟩
theorem mi_X2_put : gInst yX2_put := ⟨g_t 502 (by decide +kernel) (by decide +kernel), g_p 29 (q := (⟨"CourtMail$Draft", "put", "(II)V"⟩, 14)) (by decide +kernel) (by decide +kernel)⟩
theorem mt_X2_takeNumberByte : gMeth yX2_takeNumberByte cX2_takeNumberByte 3 (some .boolean) 2 := ⟨g_t 507 (by decide +kernel) (by decide +kernel), g_t 5 (by decide +kernel) (by decide +kernel), by decide +kernel, by decide⟩
theorem mi_X2_takeNumberByte : gInst yX2_takeNumberByte := ⟨g_t 506 (by decide +kernel) (by decide +kernel), g_p 30 (q := (⟨"CourtMail$Draft", "takeNumberByte", "(II)Z"⟩, 14)) (by decide +kernel) (by decide +kernel)⟩
theorem mt_X2_endNumber : gMeth yX2_endNumber cX2_endNumber 1 none 0 := ⟨g_t 511 (by decide +kernel) (by decide +kernel), g_t 5 (by decide +kernel) (by decide +kernel), by decide +kernel, by decide⟩
theorem mi_X2_endNumber : gInst yX2_endNumber := ⟨g_t 510 (by decide +kernel) (by decide +kernel), g_p 31 (q := (⟨"CourtMail$Draft", "endNumber", "()V"⟩, 14)) (by decide +kernel) (by decide +kernel)⟩
theorem mt_X2_takeBodyByte : gMeth yX2_takeBodyByte cX2_takeBodyByte 3 (some .boolean) 2 := ⟨g_t 515 (by decide +kernel) (by decide +kernel), g_t 5 (by decide +kernel) (by decide +kernel), by decide +kernel, by decide⟩
theorem mi_X2_takeBodyByte : gInst yX2_takeBodyByte := ⟨g_t 514 (by decide +kernel) (by decide +kernel), g_p 32 (q := (⟨"CourtMail$Draft", "takeBodyByte", "(II)Z"⟩, 14)) (by decide +kernel) (by decide +kernel)⟩
theorem mt_X2_takePlain : gMeth yX2_takePlain cX2_takePlain 2 (some .boolean) 1 := ⟨g_t 519 (by decide +kernel) (by decide +kernel), g_t 5 (by decide +kernel) (by decide +kernel), by decide +kernel, by decide⟩
theorem mi_X2_takePlain : gInst yX2_takePlain := ⟨g_t 518 (by decide +kernel) (by decide +kernel), g_p 33 (q := (⟨"CourtMail$Draft", "takePlain", "(I)Z"⟩, 14)) (by decide +kernel) (by decide +kernel)⟩
theorem mt_X2_isWhole : gMeth yX2_isWhole cX2_isWhole 1 (some .boolean) 0 := ⟨g_t 523 (by decide +kernel) (by decide +kernel), g_t 5 (by decide +kernel) (by decide +kernel), by decide +kernel, by decide⟩
theorem mi_X2_isWhole : gInst yX2_isWhole := ⟨g_t 522 (by decide +kernel) (by decide +kernel), g_p 34 (q := (⟨"CourtMail$Draft", "isWhole", "()Z"⟩, 14)) (by decide +kernel) (by decide +kernel)⟩
theorem mt_X1_init : gMeth yX1_init cX1_init 3 none 2 := ⟨g_t 527 (by decide +kernel) (by decide +kernel), g_t 17 (by decide +kernel) (by decide +kernel), by decide +kernel, by decide⟩
theorem mi_X1_init : gCtor yX1_init := ⟨g_t 526 (by decide +kernel) (by decide +kernel), rfl⟩
theorem mt_X1_firstOf : gMeth yX1_firstOf cX1_firstOf 2 (some (.array .byte)) 2 := ⟨g_t 531 (by decide +kernel) (by decide +kernel), g_t 17 (by decide +kernel) (by decide +kernel), by decide +kernel, by decide⟩
theorem ms_X1_firstOf : gStat yX1_firstOf := g_t 530 (by decide +kernel) (by decide +kernel)
theorem mt_J7_copyOf_9075b : gMeth yJ7_copyOf_9075b cJ7_copyOf_9075b 3 (some (.array .byte)) 2 := ⟨g_t 535 (by decide +kernel) (by decide +kernel), g_t 18 (by decide +kernel) (by decide +kernel), by decide +kernel, by decide⟩
theorem ms_J7_copyOf_9075b : gStat yJ7_copyOf_9075b := g_t 534 (by decide +kernel) (by decide +kernel)
theorem mt_Jx4a65c_add_9ea2d : gMeth yJx4a65c_add_9ea2d cJx4a65c_add_9ea2d 2 (some .boolean) 1 := ⟨g_t 582 (by decide +kernel) (by decide +kernel), g_t 4 (by decide +kernel) (by decide +kernel), by decide +kernel, by decide⟩
theorem mi_Jx4a65c_add_9ea2d : gInst yJx4a65c_add_9ea2d := ⟨g_t 580 (by decide +kernel) (by decide +kernel), g_t 581 (by decide +kernel) (by decide +kernel)⟩
theorem mt_Jx4a65c_add_72be8 : gMeth yJx4a65c_add_72be8 cJx4a65c_add_72be8 4 none 3 := ⟨g_t 586 (by decide +kernel) (by decide +kernel), g_t 4 (by decide +kernel) (by decide +kernel), by decide +kernel, by decide⟩
theorem mi_Jx4a65c_add_72be8 : gInst yJx4a65c_add_72be8 := ⟨g_t 585 (by decide +kernel) (by decide +kernel), g_p 35 (q := (⟨"java/util/ArrayList", "add", "(Ljava/lang/Object;[Ljava/lang/Object;I)V"⟩, 3)) (by decide +kernel) (by decide +kernel)⟩
theorem mt_Jx4a65c_grow_d5877 : gMeth yJx4a65c_grow_d5877 cJx4a65c_grow_d5877 1 (some (.array (.object "java/lang/Object"))) 0 := ⟨g_t 590 (by decide +kernel) (by decide +kernel), g_t 4 (by decide +kernel) (by decide +kernel), by decide +kernel, by decide⟩
theorem mi_Jx4a65c_grow_d5877 : gInst yJx4a65c_grow_d5877 := ⟨g_t 589 (by decide +kernel) (by decide +kernel), g_p 36 (q := (⟨"java/util/ArrayList", "grow", "()[Ljava/lang/Object;"⟩, 3)) (by decide +kernel) (by decide +kernel)⟩
theorem mt_Jx4a65c_grow_92f84 : gMeth yJx4a65c_grow_92f84 cJx4a65c_grow_92f84 4 (some (.array (.object "java/lang/Object"))) 1 := ⟨g_t 594 (by decide +kernel) (by decide +kernel), g_t 4 (by decide +kernel) (by decide +kernel), by decide +kernel, by decide⟩
theorem mi_Jx4a65c_grow_92f84 : gInst yJx4a65c_grow_92f84 := ⟨g_t 593 (by decide +kernel) (by decide +kernel), g_p 37 (q := (⟨"java/util/ArrayList", "grow", "(I)[Ljava/lang/Object;"⟩, 3)) (by decide +kernel) (by decide +kernel)⟩
theorem mt_J8_newLength_cabcc : gMeth yJ8_newLength_cabcc cJ8_newLength_cabcc 4 (some .int) 3 := ⟨g_t 597 (by decide +kernel) (by decide +kernel), g_t 20 (by decide +kernel) (by decide +kernel), by decide +kernel, by decide⟩
theorem ms_J8_newLength_cabcc : gStat yJ8_newLength_cabcc := g_t 596 (by decide +kernel) (by decide +kernel)
theorem mt_J8_hugeLength_7cf53 : gMeth yJ8_hugeLength_7cf53 cJ8_hugeLength_7cf53 3 (some .int) 2 := ⟨g_t 602 (by decide +kernel) (by decide +kernel), g_t 20 (by decide +kernel) (by decide +kernel), by decide +kernel, by decide⟩
theorem ms_J8_hugeLength_7cf53 : gStat yJ8_hugeLength_7cf53 := g_t 601 (by decide +kernel) (by decide +kernel)
theorem mt_J7_copyOf_1904c : gMeth yJ7_copyOf_1904c cJ7_copyOf_1904c 2 (some (.array (.object "java/lang/Object"))) 2 := ⟨g_t 605 (by decide +kernel) (by decide +kernel), g_t 18 (by decide +kernel) (by decide +kernel), by decide +kernel, by decide⟩
theorem ms_J7_copyOf_1904c : gStat yJ7_copyOf_1904c := g_t 604 (by decide +kernel) (by decide +kernel)
theorem mt_J7_copyOf_6403c : gMeth yJ7_copyOf_6403c cJ7_copyOf_6403c 4 (some (.array (.object "java/lang/Object"))) 3 := ⟨g_t 626 (by decide +kernel) (by decide +kernel), g_t 18 (by decide +kernel) (by decide +kernel), by decide +kernel, by decide⟩
theorem ms_J7_copyOf_6403c : gStat yJ7_copyOf_6403c := g_t 625 (by decide +kernel) (by decide +kernel)
theorem mt_X7_veil : gMeth yX7_veil cX7_veil 6 (some .int) 4 := ⟨g_t 638 (by decide +kernel) (by decide +kernel), g_t 1 (by decide +kernel) (by decide +kernel), by decide +kernel, by decide⟩
theorem mi_X7_veil : gInst yX7_veil := ⟨g_t 636 (by decide +kernel) (by decide +kernel), g_t 637 (by decide +kernel) (by decide +kernel)⟩
theorem mt_X7_documentAt : gMeth yX7_documentAt cX7_documentAt 2 (some (.object "CourtMail$Document")) 1 := ⟨g_t 642 (by decide +kernel) (by decide +kernel), g_t 1 (by decide +kernel) (by decide +kernel), by decide +kernel, by decide⟩
theorem mi_X7_documentAt : gInst yX7_documentAt := ⟨g_t 641 (by decide +kernel) (by decide +kernel), g_p 38 (q := (⟨"CourtMail", "documentAt", "(I)LCourtMail$Document;"⟩, 12)) (by decide +kernel) (by decide +kernel)⟩
theorem mt_X1_hasRange : gMeth yX1_hasRange cX1_hasRange 3 (some .boolean) 2 := ⟨g_t 647 (by decide +kernel) (by decide +kernel), g_t 17 (by decide +kernel) (by decide +kernel), by decide +kernel, by decide⟩
theorem mi_X1_hasRange : gInst yX1_hasRange := ⟨g_t 645 (by decide +kernel) (by decide +kernel), g_t 646 (by decide +kernel) (by decide +kernel)⟩
theorem mt_X7_isLevel : gMeth yX7_isLevel cX7_isLevel 1 (some .boolean) 1 := ⟨g_t 650 (by decide +kernel) (by decide +kernel), g_t 1 (by decide +kernel) (by decide +kernel), by decide +kernel, by decide⟩
theorem ms_X7_isLevel : gStat yX7_isLevel := g_t 649 (by decide +kernel) (by decide +kernel)
theorem mt_X1_setLevels : gMeth yX1_setLevels cX1_setLevels 6 (some .int) 3 := ⟨g_t 655 (by decide +kernel) (by decide +kernel), g_t 17 (by decide +kernel) (by decide +kernel), by decide +kernel, by decide⟩
theorem mi_X1_setLevels : gInst yX1_setLevels := ⟨g_t 653 (by decide +kernel) (by decide +kernel), g_t 654 (by decide +kernel) (by decide +kernel)⟩
theorem mt_X7_document : gMeth yX7_document cX7_document 4 (some .int) 2 := ⟨g_t 662 (by decide +kernel) (by decide +kernel), g_t 1 (by decide +kernel) (by decide +kernel), by decide +kernel, by decide⟩
theorem mi_X7_document : gInst yX7_document := ⟨g_t 660 (by decide +kernel) (by decide +kernel), g_t 661 (by decide +kernel) (by decide +kernel)⟩
theorem mt_X7_open : gMeth yX7_open cX7_open 2 (some .int) 1 := ⟨g_t 670 (by decide +kernel) (by decide +kernel), g_t 1 (by decide +kernel) (by decide +kernel), by decide +kernel, by decide⟩
theorem mi_X7_open : gInst yX7_open := ⟨g_t 668 (by decide +kernel) (by decide +kernel), g_t 669 (by decide +kernel) (by decide +kernel)⟩
theorem mt_X0_init : gMeth yX0_init cX0_init 3 none 2 := ⟨g_t 676 (by decide +kernel) (by decide +kernel), g_t 21 (by decide +kernel) (by decide +kernel), by decide +kernel, by decide⟩
theorem mi_X0_init : gCtor yX0_init := ⟨g_t 675 (by decide +kernel) (by decide +kernel), rfl⟩
theorem mt_X7_seal : gMeth yX7_seal cX7_seal 5 (some .int) 2 := ⟨g_t 695 (by decide +kernel) (by decide +kernel), g_t 1 (by decide +kernel) (by decide +kernel), by decide +kernel, by decide⟩
theorem mi_X7_seal : gInst yX7_seal := ⟨g_t 693 (by decide +kernel) (by decide +kernel), g_t 694 (by decide +kernel) (by decide +kernel)⟩
theorem mt_X7_addPerson : gMeth yX7_addPerson cX7_addPerson 3 (some .int) 2 := ⟨g_t 702 (by decide +kernel) (by decide +kernel), g_t 1 (by decide +kernel) (by decide +kernel), by decide +kernel, by decide⟩
theorem mi_X7_addPerson : gInst yX7_addPerson := ⟨g_t 700 (by decide +kernel) (by decide +kernel), g_t 701 (by decide +kernel) (by decide +kernel)⟩
theorem mt_X6_init : gMeth yX6_init cX6_init 4 none 3 := ⟨g_t 708 (by decide +kernel) (by decide +kernel), g_t 22 (by decide +kernel) (by decide +kernel), by decide +kernel, by decide⟩
theorem mi_X6_init : gCtor yX6_init := ⟨g_t 707 (by decide +kernel) (by decide +kernel), rfl⟩
theorem mt_X7_attach : gMeth yX7_attach cX7_attach 5 (some .boolean) 2 := ⟨g_t 740 (by decide +kernel) (by decide +kernel), g_t 1 (by decide +kernel) (by decide +kernel), by decide +kernel, by decide⟩
theorem mi_X7_attach : gInst yX7_attach := ⟨g_t 738 (by decide +kernel) (by decide +kernel), g_t 739 (by decide +kernel) (by decide +kernel)⟩
theorem mt_X7_personAt : gMeth yX7_personAt cX7_personAt 2 (some (.object "CourtMail$Person")) 1 := ⟨g_t 744 (by decide +kernel) (by decide +kernel), g_t 1 (by decide +kernel) (by decide +kernel), by decide +kernel, by decide⟩
theorem mi_X7_personAt : gInst yX7_personAt := ⟨g_t 743 (by decide +kernel) (by decide +kernel), g_p 39 (q := (⟨"CourtMail", "personAt", "(I)LCourtMail$Person;"⟩, 12)) (by decide +kernel) (by decide +kernel)⟩
theorem mt_X7_person : gMeth yX7_person cX7_person 4 (some .int) 2 := ⟨g_t 753 (by decide +kernel) (by decide +kernel), g_t 1 (by decide +kernel) (by decide +kernel), by decide +kernel, by decide⟩
theorem mi_X7_person : gInst yX7_person := ⟨g_t 751 (by decide +kernel) (by decide +kernel), g_t 752 (by decide +kernel) (by decide +kernel)⟩
theorem mt_X7_caseOf : gMeth yX7_caseOf cX7_caseOf 4 (some .int) 2 := ⟨g_t 761 (by decide +kernel) (by decide +kernel), g_t 1 (by decide +kernel) (by decide +kernel), by decide +kernel, by decide⟩
theorem mi_X7_caseOf : gInst yX7_caseOf := ⟨g_t 759 (by decide +kernel) (by decide +kernel), g_t 760 (by decide +kernel) (by decide +kernel)⟩
theorem mt_X7_read : gMeth yX7_read cX7_read 6 (some .int) 2 := ⟨g_t 769 (by decide +kernel) (by decide +kernel), g_t 1 (by decide +kernel) (by decide +kernel), by decide +kernel, by decide⟩
theorem mi_X7_read : gInst yX7_read := ⟨g_t 767 (by decide +kernel) (by decide +kernel), g_t 768 (by decide +kernel) (by decide +kernel)⟩
theorem mt_X6_reachInto : gMeth yX6_reachInto cX6_reachInto 2 (some .int) 1 := ⟨g_t 774 (by decide +kernel) (by decide +kernel), g_t 22 (by decide +kernel) (by decide +kernel), by decide +kernel, by decide⟩
theorem mi_X6_reachInto : gInst yX6_reachInto := ⟨g_t 772 (by decide +kernel) (by decide +kernel), g_t 773 (by decide +kernel) (by decide +kernel)⟩
theorem mt_X7_writePaper : gMeth yX7_writePaper cX7_writePaper 4 none 2 := ⟨g_t 779 (by decide +kernel) (by decide +kernel), g_t 1 (by decide +kernel) (by decide +kernel), by decide +kernel, by decide⟩
theorem mi_X7_writePaper : gInst yX7_writePaper := ⟨g_t 778 (by decide +kernel) (by decide +kernel), g_p 40 (q := (⟨"CourtMail", "writePaper", "(LCourtMail$Document;I)V"⟩, 12)) (by decide +kernel) (by decide +kernel)⟩
theorem mt_X1_seenAt : gMeth yX1_seenAt cX1_seenAt 3 (some .int) 2 := ⟨g_t 784 (by decide +kernel) (by decide +kernel), g_t 17 (by decide +kernel) (by decide +kernel), by decide +kernel, by decide⟩
theorem mi_X1_seenAt : gInst yX1_seenAt := ⟨g_t 782 (by decide +kernel) (by decide +kernel), g_t 783 (by decide +kernel) (by decide +kernel)⟩
theorem mt_X1_writeLog : gMeth yX1_writeLog cX1_writeLog 2 none 1 := ⟨g_t 788 (by decide +kernel) (by decide +kernel), g_t 17 (by decide +kernel) (by decide +kernel), by decide +kernel, by decide⟩
theorem mi_X1_writeLog : gInst yX1_writeLog := ⟨g_t 786 (by decide +kernel) (by decide +kernel), g_t 787 (by decide +kernel) (by decide +kernel)⟩
theorem mt_X7_byteAt : gMeth yX7_byteAt cX7_byteAt 2 (some .int) 1 := ⟨g_t 795 (by decide +kernel) (by decide +kernel), g_t 1 (by decide +kernel) (by decide +kernel), by decide +kernel, by decide⟩
theorem mi_X7_byteAt : gInst yX7_byteAt := ⟨g_t 793 (by decide +kernel) (by decide +kernel), g_t 794 (by decide +kernel) (by decide +kernel)⟩
theorem mt_X7_hidden : gMeth yX7_hidden cX7_hidden 5 (some .int) 2 := ⟨g_t 803 (by decide +kernel) (by decide +kernel), g_t 1 (by decide +kernel) (by decide +kernel), by decide +kernel, by decide⟩
theorem mi_X7_hidden : gInst yX7_hidden := ⟨g_t 801 (by decide +kernel) (by decide +kernel), g_t 802 (by decide +kernel) (by decide +kernel)⟩
theorem mt_X7_hiddenBytes : gMeth yX7_hiddenBytes cX7_hiddenBytes 2 (some .int) 2 := ⟨g_t 806 (by decide +kernel) (by decide +kernel), g_t 1 (by decide +kernel) (by decide +kernel), by decide +kernel, by decide⟩
theorem ms_X7_hiddenBytes : gStat yX7_hiddenBytes := g_t 805 (by decide +kernel) (by decide +kernel)
theorem mt_X1_countHidden : gMeth yX1_countHidden cX1_countHidden 6 (some .int) 3 := ⟨g_t 810 (by decide +kernel) (by decide +kernel), g_t 17 (by decide +kernel) (by decide +kernel), by decide +kernel, by decide⟩
theorem mi_X1_countHidden : gInst yX1_countHidden := ⟨g_t 808 (by decide +kernel) (by decide +kernel), g_t 809 (by decide +kernel) (by decide +kernel)⟩
theorem mt_X7_differs : gMeth yX7_differs cX7_differs 10 (some .int) 3 := ⟨g_t 818 (by decide +kernel) (by decide +kernel), g_t 1 (by decide +kernel) (by decide +kernel), by decide +kernel, by decide⟩
theorem mi_X7_differs : gInst yX7_differs := ⟨g_t 816 (by decide +kernel) (by decide +kernel), g_t 817 (by decide +kernel) (by decide +kernel)⟩
theorem mt_X7_find : gMeth yX7_find cX7_find 7 (some .int) 2 := ⟨g_t 825 (by decide +kernel) (by decide +kernel), g_t 1 (by decide +kernel) (by decide +kernel), by decide +kernel, by decide⟩
theorem mi_X7_find : gInst yX7_find := ⟨g_t 823 (by decide +kernel) (by decide +kernel), g_t 824 (by decide +kernel) (by decide +kernel)⟩
theorem mt_X7_isTapeSeen : gMeth yX7_isTapeSeen cX7_isTapeSeen 5 (some .boolean) 3 := ⟨g_t 829 (by decide +kernel) (by decide +kernel), g_t 1 (by decide +kernel) (by decide +kernel), by decide +kernel, by decide⟩
theorem mi_X7_isTapeSeen : gInst yX7_isTapeSeen := ⟨g_t 828 (by decide +kernel) (by decide +kernel), g_p 41 (q := (⟨"CourtMail", "isTapeSeen", "(LCourtMail$Document;II)Z"⟩, 12)) (by decide +kernel) (by decide +kernel)⟩
theorem mt_X7_least : gMeth yX7_least cX7_least 6 (some .int) 3 := ⟨g_t 836 (by decide +kernel) (by decide +kernel), g_t 1 (by decide +kernel) (by decide +kernel), by decide +kernel, by decide⟩
theorem mi_X7_least : gInst yX7_least := ⟨g_t 834 (by decide +kernel) (by decide +kernel), g_t 835 (by decide +kernel) (by decide +kernel)⟩
theorem mt_X7_lend : gMeth yX7_lend cX7_lend 6 (some .int) 3 := ⟨g_t 844 (by decide +kernel) (by decide +kernel), g_t 1 (by decide +kernel) (by decide +kernel), by decide +kernel, by decide⟩
theorem mi_X7_lend : gInst yX7_lend := ⟨g_t 842 (by decide +kernel) (by decide +kernel), g_t 843 (by decide +kernel) (by decide +kernel)⟩
theorem mt_X7_back : gMeth yX7_back cX7_back 4 (some .int) 1 := ⟨g_t 854 (by decide +kernel) (by decide +kernel), g_t 1 (by decide +kernel) (by decide +kernel), by decide +kernel, by decide⟩
theorem mi_X7_back : gInst yX7_back := ⟨g_t 852 (by decide +kernel) (by decide +kernel), g_t 853 (by decide +kernel) (by decide +kernel)⟩
theorem mt_X1_bringBack : gMeth yX1_bringBack cX1_bringBack 1 none 0 := ⟨g_t 858 (by decide +kernel) (by decide +kernel), g_t 17 (by decide +kernel) (by decide +kernel), by decide +kernel, by decide⟩
theorem mi_X1_bringBack : gInst yX1_bringBack := ⟨g_t 856 (by decide +kernel) (by decide +kernel), g_t 857 (by decide +kernel) (by decide +kernel)⟩
theorem mt_X7_takeIn : gMeth yX7_takeIn cX7_takeIn 3 (some .int) 1 := ⟨g_t 865 (by decide +kernel) (by decide +kernel), g_t 1 (by decide +kernel) (by decide +kernel), by decide +kernel, by decide⟩
theorem mi_X7_takeIn : gInst yX7_takeIn := ⟨g_t 863 (by decide +kernel) (by decide +kernel), g_t 864 (by decide +kernel) (by decide +kernel)⟩
theorem mt_X3_init : gMeth yX3_init cX3_init 3 none 2 := ⟨g_t 870 (by decide +kernel) (by decide +kernel), g_t 24 (by decide +kernel) (by decide +kernel), by decide +kernel, by decide⟩
theorem mi_X3_init : gCtor yX3_init := ⟨g_t 869 (by decide +kernel) (by decide +kernel), rfl⟩
theorem mt_X7_hand : gMeth yX7_hand cX7_hand 5 (some .int) 2 := ⟨g_t 905 (by decide +kernel) (by decide +kernel), g_t 1 (by decide +kernel) (by decide +kernel), by decide +kernel, by decide⟩
theorem mi_X7_hand : gInst yX7_hand := ⟨g_t 903 (by decide +kernel) (by decide +kernel), g_t 904 (by decide +kernel) (by decide +kernel)⟩
theorem mt_X7_exhibitAt : gMeth yX7_exhibitAt cX7_exhibitAt 2 (some (.object "CourtMail$Exhibit")) 1 := ⟨g_t 909 (by decide +kernel) (by decide +kernel), g_t 1 (by decide +kernel) (by decide +kernel), by decide +kernel, by decide⟩
theorem mi_X7_exhibitAt : gInst yX7_exhibitAt := ⟨g_t 908 (by decide +kernel) (by decide +kernel), g_p 42 (q := (⟨"CourtMail", "exhibitAt", "(I)LCourtMail$Exhibit;"⟩, 12)) (by decide +kernel) (by decide +kernel)⟩
theorem mt_X3_hasFullChain : gMeth yX3_hasFullChain cX3_hasFullChain 1 (some .boolean) 0 := ⟨g_t 914 (by decide +kernel) (by decide +kernel), g_t 24 (by decide +kernel) (by decide +kernel), by decide +kernel, by decide⟩
theorem mi_X3_hasFullChain : gInst yX3_hasFullChain := ⟨g_t 912 (by decide +kernel) (by decide +kernel), g_t 913 (by decide +kernel) (by decide +kernel)⟩
theorem mt_X5_init : gMeth yX5_init cX5_init 5 none 4 := ⟨g_t 920 (by decide +kernel) (by decide +kernel), g_t 25 (by decide +kernel) (by decide +kernel), by decide +kernel, by decide⟩
theorem mi_X5_init : gCtor yX5_init := ⟨g_t 919 (by decide +kernel) (by decide +kernel), rfl⟩
theorem mt_X3_addLink : gMeth yX3_addLink cX3_addLink 2 none 1 := ⟨g_t 943 (by decide +kernel) (by decide +kernel), g_t 24 (by decide +kernel) (by decide +kernel), by decide +kernel, by decide⟩
theorem mi_X3_addLink : gInst yX3_addLink := ⟨g_t 941 (by decide +kernel) (by decide +kernel), g_t 942 (by decide +kernel) (by decide +kernel)⟩
theorem mt_X7_unseal : gMeth yX7_unseal cX7_unseal 3 (some .int) 1 := ⟨g_t 951 (by decide +kernel) (by decide +kernel), g_t 1 (by decide +kernel) (by decide +kernel), by decide +kernel, by decide⟩
theorem mi_X7_unseal : gInst yX7_unseal := ⟨g_t 949 (by decide +kernel) (by decide +kernel), g_t 950 (by decide +kernel) (by decide +kernel)⟩
theorem mt_X7_lose : gMeth yX7_lose cX7_lose 4 (some .int) 1 := ⟨g_t 960 (by decide +kernel) (by decide +kernel), g_t 1 (by decide +kernel) (by decide +kernel), by decide +kernel, by decide⟩
theorem mi_X7_lose : gInst yX7_lose := ⟨g_t 958 (by decide +kernel) (by decide +kernel), g_t 959 (by decide +kernel) (by decide +kernel)⟩
theorem mt_X7_found : gMeth yX7_found cX7_found 5 (some .int) 2 := ⟨g_t 968 (by decide +kernel) (by decide +kernel), g_t 1 (by decide +kernel) (by decide +kernel), by decide +kernel, by decide⟩
theorem mi_X7_found : gInst yX7_found := ⟨g_t 966 (by decide +kernel) (by decide +kernel), g_t 967 (by decide +kernel) (by decide +kernel)⟩
theorem mt_X7_exhibit : gMeth yX7_exhibit cX7_exhibit 4 (some .int) 2 := ⟨g_t 976 (by decide +kernel) (by decide +kernel), g_t 1 (by decide +kernel) (by decide +kernel), by decide +kernel, by decide⟩
theorem mi_X7_exhibit : gInst yX7_exhibit := ⟨g_t 974 (by decide +kernel) (by decide +kernel), g_t 975 (by decide +kernel) (by decide +kernel)⟩
theorem mt_X7_link : gMeth yX7_link cX7_link 5 (some .int) 3 := ⟨g_t 984 (by decide +kernel) (by decide +kernel), g_t 1 (by decide +kernel) (by decide +kernel), by decide +kernel, by decide⟩
theorem mi_X7_link : gInst yX7_link := ⟨g_t 982 (by decide +kernel) (by decide +kernel), g_t 983 (by decide +kernel) (by decide +kernel)⟩
theorem mt_X7_send : gMeth yX7_send cX7_send 6 (some .int) 3 := ⟨g_t 992 (by decide +kernel) (by decide +kernel), g_t 1 (by decide +kernel) (by decide +kernel), by decide +kernel, by decide⟩
theorem mi_X7_send : gInst yX7_send := ⟨g_t 990 (by decide +kernel) (by decide +kernel), g_t 991 (by decide +kernel) (by decide +kernel)⟩
theorem mt_X4_init : gMeth yX4_init cX4_init 5 none 4 := ⟨g_t 998 (by decide +kernel) (by decide +kernel), g_t 26 (by decide +kernel) (by decide +kernel), by decide +kernel, by decide⟩
theorem mi_X4_init : gCtor yX4_init := ⟨g_t 997 (by decide +kernel) (by decide +kernel), rfl⟩
theorem mt_X7_letter : gMeth yX7_letter cX7_letter 4 (some .int) 2 := ⟨g_t 1031 (by decide +kernel) (by decide +kernel), g_t 1 (by decide +kernel) (by decide +kernel), by decide +kernel, by decide⟩
theorem mi_X7_letter : gInst yX7_letter := ⟨g_t 1029 (by decide +kernel) (by decide +kernel), g_t 1030 (by decide +kernel) (by decide +kernel)⟩
theorem mt_X7_letterAt : gMeth yX7_letterAt cX7_letterAt 2 (some (.object "CourtMail$Letter")) 1 := ⟨g_t 1035 (by decide +kernel) (by decide +kernel), g_t 1 (by decide +kernel) (by decide +kernel), by decide +kernel, by decide⟩
theorem mi_X7_letterAt : gInst yX7_letterAt := ⟨g_t 1034 (by decide +kernel) (by decide +kernel), g_p 43 (q := (⟨"CourtMail", "letterAt", "(I)LCourtMail$Letter;"⟩, 12)) (by decide +kernel) (by decide +kernel)⟩
theorem mt_X7_pass : gMeth yX7_pass cX7_pass 4 (some .int) 1 := ⟨g_t 1043 (by decide +kernel) (by decide +kernel), g_t 1 (by decide +kernel) (by decide +kernel), by decide +kernel, by decide⟩
theorem mi_X7_pass : gInst yX7_pass := ⟨g_t 1041 (by decide +kernel) (by decide +kernel), g_t 1042 (by decide +kernel) (by decide +kernel)⟩
theorem mt_X7_carryOutLetters : gMeth yX7_carryOutLetters cX7_carryOutLetters 5 (some .int) 0 := ⟨g_t 1048 (by decide +kernel) (by decide +kernel), g_t 1 (by decide +kernel) (by decide +kernel), by decide +kernel, by decide⟩
theorem mi_X7_carryOutLetters : gInst yX7_carryOutLetters := ⟨g_t 1047 (by decide +kernel) (by decide +kernel), g_p 44 (q := (⟨"CourtMail", "carryOutLetters", "()I"⟩, 12)) (by decide +kernel) (by decide +kernel)⟩
theorem mt_X7_lettersOfADay : gMeth yX7_lettersOfADay cX7_lettersOfADay 3 (some .int) 0 := ⟨g_t 1052 (by decide +kernel) (by decide +kernel), g_t 1 (by decide +kernel) (by decide +kernel), by decide +kernel, by decide⟩
theorem mi_X7_lettersOfADay : gInst yX7_lettersOfADay := ⟨g_t 1051 (by decide +kernel) (by decide +kernel), g_p 45 (q := (⟨"CourtMail", "lettersOfADay", "()I"⟩, 12)) (by decide +kernel) (by decide +kernel)⟩
