theorem mt_X7_nextLetter : gMeth yX7_nextLetter cX7_nextLetter 4 (some (.object "CourtMail$Letter")) 0 := ⟨g_t 1056 (by decide +kernel) (by decide +kernel), g_t 1 (by decide +kernel) (by decide +kernel), by decide +kernel, by decide⟩
theorem mi_X7_nextLetter : gInst yX7_nextLetter := ⟨g_t 1055 (by decide +kernel) (by decide +kernel), g_p 46 (q := (⟨"CourtMail", "nextLetter", "()LCourtMail$Letter;"⟩, 12)) (by decide +kernel) (by decide +kernel)⟩
theorem mt_X7_carryOut : gMeth yX7_carryOut cX7_carryOut 2 none 1 := ⟨g_t 1060 (by decide +kernel) (by decide +kernel), g_t 1 (by decide +kernel) (by decide +kernel), by decide +kernel, by decide⟩
theorem mi_X7_carryOut : gInst yX7_carryOut := ⟨g_t 1059 (by decide +kernel) (by decide +kernel), g_p 47 (q := (⟨"CourtMail", "carryOut", "(LCourtMail$Letter;)V"⟩, 12)) (by decide +kernel) (by decide +kernel)⟩
theorem mt_X7_callBackOriginals : gMeth yX7_callBackOriginals cX7_callBackOriginals 3 none 0 := ⟨g_t 1064 (by decide +kernel) (by decide +kernel), g_t 1 (by decide +kernel) (by decide +kernel), by decide +kernel, by decide⟩
theorem mi_X7_callBackOriginals : gInst yX7_callBackOriginals := ⟨g_t 1063 (by decide +kernel) (by decide +kernel), g_p 48 (q := (⟨"CourtMail", "callBackOriginals", "()V"⟩, 12)) (by decide +kernel) (by decide +kernel)⟩
theorem mt_X6_warn : gMeth yX6_warn cX6_warn 1 none 0 := ⟨g_t 1068 (by decide +kernel) (by decide +kernel), g_t 22 (by decide +kernel) (by decide +kernel), by decide +kernel, by decide⟩
theorem mi_X6_warn : gInst yX6_warn := ⟨g_t 1066 (by decide +kernel) (by decide +kernel), g_t 1067 (by decide +kernel) (by decide +kernel)⟩
theorem mt_X7_arrives : gMeth yX7_arrives cX7_arrives 6 (some .int) 1 := ⟨g_t 1076 (by decide +kernel) (by decide +kernel), g_t 1 (by decide +kernel) (by decide +kernel), by decide +kernel, by decide⟩
theorem mi_X7_arrives : gInst yX7_arrives := ⟨g_t 1074 (by decide +kernel) (by decide +kernel), g_t 1075 (by decide +kernel) (by decide +kernel)⟩
theorem mt_X7_lettersAhead : gMeth yX7_lettersAhead cX7_lettersAhead 6 (some .int) 2 := ⟨g_t 1081 (by decide +kernel) (by decide +kernel), g_t 1 (by decide +kernel) (by decide +kernel), by decide +kernel, by decide⟩
theorem mi_X7_lettersAhead : gInst yX7_lettersAhead := ⟨g_t 1080 (by decide +kernel) (by decide +kernel), g_p 49 (q := (⟨"CourtMail", "lettersAhead", "(ILCourtMail$Letter;)I"⟩, 12)) (by decide +kernel) (by decide +kernel)⟩
theorem mt_X7_clearanceBehind : gMeth yX7_clearanceBehind cX7_clearanceBehind 6 (some .int) 2 := ⟨g_t 1085 (by decide +kernel) (by decide +kernel), g_t 1 (by decide +kernel) (by decide +kernel), by decide +kernel, by decide⟩
theorem mi_X7_clearanceBehind : gInst yX7_clearanceBehind := ⟨g_t 1084 (by decide +kernel) (by decide +kernel), g_p 50 (q := (⟨"CourtMail", "clearanceBehind", "(LCourtMail$Person;I)I"⟩, 12)) (by decide +kernel) (by decide +kernel)⟩
theorem mt_X7_count : gMeth yX7_count cX7_count 2 (some .int) 1 := ⟨g_t 1094 (by decide +kernel) (by decide +kernel), g_t 1 (by decide +kernel) (by decide +kernel), by decide +kernel, by decide⟩
theorem mi_X7_count : gInst yX7_count := ⟨g_t 1092 (by decide +kernel) (by decide +kernel), g_t 1093 (by decide +kernel) (by decide +kernel)⟩
theorem mt_X7_sees : gMeth yX7_sees cX7_sees 8 (some .int) 1 := ⟨g_t 1102 (by decide +kernel) (by decide +kernel), g_t 1 (by decide +kernel) (by decide +kernel), by decide +kernel, by decide⟩
theorem mi_X7_sees : gInst yX7_sees := ⟨g_t 1100 (by decide +kernel) (by decide +kernel), g_t 1101 (by decide +kernel) (by decide +kernel)⟩
theorem mt_X7_bytesSeenBy : gMeth yX7_bytesSeenBy cX7_bytesSeenBy 6 (some .int) 2 := ⟨g_t 1106 (by decide +kernel) (by decide +kernel), g_t 1 (by decide +kernel) (by decide +kernel), by decide +kernel, by decide⟩
theorem mi_X7_bytesSeenBy : gInst yX7_bytesSeenBy := ⟨g_t 1105 (by decide +kernel) (by decide +kernel), g_p 51 (q := (⟨"CourtMail", "bytesSeenBy", "(LCourtMail$Person;LCourtMail$Case;)I"⟩, 12)) (by decide +kernel) (by decide +kernel)⟩
theorem mt_X9_init : gMeth yX9_init cX9_init 1 none 0 := ⟨g_t 1111 (by decide +kernel) (by decide +kernel), g_t 6 (by decide +kernel) (by decide +kernel), by decide +kernel, by decide⟩
theorem mi_X9_init : gCtor yX9_init := ⟨g_t 1110 (by decide +kernel) (by decide +kernel), rfl⟩
theorem mt_X8_init : gMeth yX8_init cX8_init 2 none 1 := ⟨g_t 1119 (by decide +kernel) (by decide +kernel), g_t 7 (by decide +kernel) (by decide +kernel), by decide +kernel, by decide⟩
theorem mi_X8_init : gCtor yX8_init := ⟨g_t 1118 (by decide +kernel) (by decide +kernel), rfl⟩
theorem mt_X9_thrown : gMeth yX9_thrown cX9_thrown 1 (some .int) 0 := ⟨g_t 1275 (by decide +kernel) (by decide +kernel), g_t 6 (by decide +kernel) (by decide +kernel), by decide +kernel, by decide⟩
theorem mi_X9_thrown : gInst yX9_thrown := ⟨g_t 1273 (by decide +kernel) (by decide +kernel), g_t 1274 (by decide +kernel) (by decide +kernel)⟩
theorem mt_X9_feed : gMeth yX9_feed cX9_feed 8 (some .int) 5 := ⟨g_t 1279 (by decide +kernel) (by decide +kernel), g_t 6 (by decide +kernel) (by decide +kernel), by decide +kernel, by decide⟩
theorem mi_X9_feed : gInst yX9_feed := ⟨g_t 1277 (by decide +kernel) (by decide +kernel), g_t 1278 (by decide +kernel) (by decide +kernel)⟩
theorem mt_X9_no : gMeth yX9_no cX9_no 2 (some .int) 1 := ⟨g_t 1283 (by decide +kernel) (by decide +kernel), g_t 6 (by decide +kernel) (by decide +kernel), by decide +kernel, by decide⟩
theorem mi_X9_no : gInst yX9_no := ⟨g_t 1282 (by decide +kernel) (by decide +kernel), g_p 52 (q := (⟨"CourtMailModel", "no", "(I)I"⟩, 35)) (by decide +kernel) (by decide +kernel)⟩
theorem mt_X9_trim : gMeth yX9_trim cX9_trim 2 (some .int) 1 := ⟨g_t 1287 (by decide +kernel) (by decide +kernel), g_t 6 (by decide +kernel) (by decide +kernel), by decide +kernel, by decide⟩
theorem mi_X9_trim : gInst yX9_trim := ⟨g_t 1285 (by decide +kernel) (by decide +kernel), g_t 1286 (by decide +kernel) (by decide +kernel)⟩
theorem mt_X9_isIn : gMeth yX9_isIn cX9_isIn 3 (some .boolean) 3 := ⟨g_t 1290 (by decide +kernel) (by decide +kernel), g_t 6 (by decide +kernel) (by decide +kernel), by decide +kernel, by decide⟩
theorem ms_X9_isIn : gStat yX9_isIn := g_t 1289 (by decide +kernel) (by decide +kernel)
theorem mt_X9_file : gMeth yX9_file cX9_file 3 (some .int) 1 := ⟨g_t 1294 (by decide +kernel) (by decide +kernel), g_t 6 (by decide +kernel) (by decide +kernel), by decide +kernel, by decide⟩
theorem mi_X9_file : gInst yX9_file := ⟨g_t 1292 (by decide +kernel) (by decide +kernel), g_t 1293 (by decide +kernel) (by decide +kernel)⟩
theorem mt_X9_isCase : gMeth yX9_isCase cX9_isCase 2 (some .boolean) 1 := ⟨g_t 1298 (by decide +kernel) (by decide +kernel), g_t 6 (by decide +kernel) (by decide +kernel), by decide +kernel, by decide⟩
theorem mi_X9_isCase : gInst yX9_isCase := ⟨g_t 1297 (by decide +kernel) (by decide +kernel), g_p 53 (q := (⟨"CourtMailModel", "isCase", "(I)Z"⟩, 35)) (by decide +kernel) (by decide +kernel)⟩
theorem mt_X9_parse : gMeth yX9_parse cX9_parse 8 (some .int) 1 := ⟨g_t 1302 (by decide +kernel) (by decide +kernel), g_t 6 (by decide +kernel) (by decide +kernel), by decide +kernel, by decide⟩
theorem mi_X9_parse : gInst yX9_parse := ⟨g_t 1301 (by decide +kernel) (by decide +kernel), g_p 54 (q := (⟨"CourtMailModel", "parse", "(I)I"⟩, 35)) (by decide +kernel) (by decide +kernel)⟩
theorem mt_X9_at : gMeth yX9_at cX9_at 2 (some .int) 1 := ⟨g_t 1306 (by decide +kernel) (by decide +kernel), g_t 6 (by decide +kernel) (by decide +kernel), by decide +kernel, by decide⟩
theorem mi_X9_at : gInst yX9_at := ⟨g_t 1305 (by decide +kernel) (by decide +kernel), g_p 55 (q := (⟨"CourtMailModel", "at", "(I)I"⟩, 35)) (by decide +kernel) (by decide +kernel)⟩
theorem mt_X9_isLetter : gMeth yX9_isLetter cX9_isLetter 1 (some .boolean) 1 := ⟨g_t 1310 (by decide +kernel) (by decide +kernel), g_t 6 (by decide +kernel) (by decide +kernel), by decide +kernel, by decide⟩
theorem ms_X9_isLetter : gStat yX9_isLetter := g_t 1309 (by decide +kernel) (by decide +kernel)
theorem mt_X9_write : gMeth yX9_write cX9_write 4 none 3 := ⟨g_t 1314 (by decide +kernel) (by decide +kernel), g_t 6 (by decide +kernel) (by decide +kernel), by decide +kernel, by decide⟩
theorem mi_X9_write : gInst yX9_write := ⟨g_t 1313 (by decide +kernel) (by decide +kernel), g_p 56 (q := (⟨"CourtMailModel", "write", "(III)V"⟩, 35)) (by decide +kernel) (by decide +kernel)⟩
theorem mt_X9_writeExhibit : gMeth yX9_writeExhibit cX9_writeExhibit 3 none 2 := ⟨g_t 1318 (by decide +kernel) (by decide +kernel), g_t 6 (by decide +kernel) (by decide +kernel), by decide +kernel, by decide⟩
theorem mi_X9_writeExhibit : gInst yX9_writeExhibit := ⟨g_t 1317 (by decide +kernel) (by decide +kernel), g_p 57 (q := (⟨"CourtMailModel", "writeExhibit", "(II)V"⟩, 35)) (by decide +kernel) (by decide +kernel)⟩
theorem mt_J7_copyOf_59c91 : gMeth yJ7_copyOf_59c91 cJ7_copyOf_59c91 3 (some (.array .int)) 2 := ⟨g_t 1321 (by decide +kernel) (by decide +kernel), g_t 18 (by decide +kernel) (by decide +kernel), by decide +kernel, by decide⟩
theorem ms_J7_copyOf_59c91 : gStat yJ7_copyOf_59c91 := g_t 1320 (by decide +kernel) (by decide +kernel)
theorem mt_X9_errorAt : gMeth yX9_errorAt cX9_errorAt 1 (some .int) 0 := ⟨g_t 1330 (by decide +kernel) (by decide +kernel), g_t 6 (by decide +kernel) (by decide +kernel), by decide +kernel, by decide⟩
theorem mi_X9_errorAt : gInst yX9_errorAt := ⟨g_t 1328 (by decide +kernel) (by decide +kernel), g_t 1329 (by decide +kernel) (by decide +kernel)⟩
theorem mt_X9_veil : gMeth yX9_veil cX9_veil 7 (some .int) 4 := ⟨g_t 1334 (by decide +kernel) (by decide +kernel), g_t 6 (by decide +kernel) (by decide +kernel), by decide +kernel, by decide⟩
theorem mi_X9_veil : gInst yX9_veil := ⟨g_t 1332 (by decide +kernel) (by decide +kernel), g_t 1333 (by decide +kernel) (by decide +kernel)⟩
theorem mt_X9_isDocument : gMeth yX9_isDocument cX9_isDocument 2 (some .boolean) 1 := ⟨g_t 1338 (by decide +kernel) (by decide +kernel), g_t 6 (by decide +kernel) (by decide +kernel), by decide +kernel, by decide⟩
theorem mi_X9_isDocument : gInst yX9_isDocument := ⟨g_t 1337 (by decide +kernel) (by decide +kernel), g_p 58 (q := (⟨"CourtMailModel", "isDocument", "(I)Z"⟩, 35)) (by decide +kernel) (by decide +kernel)⟩
theorem mt_X9_document : gMeth yX9_document cX9_document 3 (some .int) 2 := ⟨g_t 1342 (by decide +kernel) (by decide +kernel), g_t 6 (by decide +kernel) (by decide +kernel), by decide +kernel, by decide⟩
theorem mi_X9_document : gInst yX9_document := ⟨g_t 1340 (by decide +kernel) (by decide +kernel), g_t 1341 (by decide +kernel) (by decide +kernel)⟩
theorem mt_X9_documentTold : gMeth yX9_documentTold cX9_documentTold 7 (some .int) 2 := ⟨g_t 1346 (by decide +kernel) (by decide +kernel), g_t 6 (by decide +kernel) (by decide +kernel), by decide +kernel, by decide⟩
theorem mi_X9_documentTold : gInst yX9_documentTold := ⟨g_t 1345 (by decide +kernel) (by decide +kernel), g_p 59 (q := (⟨"CourtMailModel", "documentTold", "(II)I"⟩, 35)) (by decide +kernel) (by decide +kernel)⟩
theorem mt_X9_open : gMeth yX9_open cX9_open 2 (some .int) 1 := ⟨g_t 1350 (by decide +kernel) (by decide +kernel), g_t 6 (by decide +kernel) (by decide +kernel), by decide +kernel, by decide⟩
theorem mi_X9_open : gInst yX9_open := ⟨g_t 1348 (by decide +kernel) (by decide +kernel), g_t 1349 (by decide +kernel) (by decide +kernel)⟩
theorem mt_X9_seal : gMeth yX9_seal cX9_seal 4 (some .int) 2 := ⟨g_t 1354 (by decide +kernel) (by decide +kernel), g_t 6 (by decide +kernel) (by decide +kernel), by decide +kernel, by decide⟩
theorem mi_X9_seal : gInst yX9_seal := ⟨g_t 1352 (by decide +kernel) (by decide +kernel), g_t 1353 (by decide +kernel) (by decide +kernel)⟩
theorem mt_X9_addPerson : gMeth yX9_addPerson cX9_addPerson 3 (some .int) 2 := ⟨g_t 1358 (by decide +kernel) (by decide +kernel), g_t 6 (by decide +kernel) (by decide +kernel), by decide +kernel, by decide⟩
theorem mi_X9_addPerson : gInst yX9_addPerson := ⟨g_t 1356 (by decide +kernel) (by decide +kernel), g_t 1357 (by decide +kernel) (by decide +kernel)⟩
theorem mt_X9_attach : gMeth yX9_attach cX9_attach 3 (some .boolean) 2 := ⟨g_t 1362 (by decide +kernel) (by decide +kernel), g_t 6 (by decide +kernel) (by decide +kernel), by decide +kernel, by decide⟩
theorem mi_X9_attach : gInst yX9_attach := ⟨g_t 1360 (by decide +kernel) (by decide +kernel), g_t 1361 (by decide +kernel) (by decide +kernel)⟩
theorem mt_X9_isPerson : gMeth yX9_isPerson cX9_isPerson 2 (some .boolean) 1 := ⟨g_t 1366 (by decide +kernel) (by decide +kernel), g_t 6 (by decide +kernel) (by decide +kernel), by decide +kernel, by decide⟩
theorem mi_X9_isPerson : gInst yX9_isPerson := ⟨g_t 1365 (by decide +kernel) (by decide +kernel), g_p 60 (q := (⟨"CourtMailModel", "isPerson", "(I)Z"⟩, 35)) (by decide +kernel) (by decide +kernel)⟩
theorem mt_X9_person : gMeth yX9_person cX9_person 3 (some .int) 2 := ⟨g_t 1370 (by decide +kernel) (by decide +kernel), g_t 6 (by decide +kernel) (by decide +kernel), by decide +kernel, by decide⟩
theorem mi_X9_person : gInst yX9_person := ⟨g_t 1368 (by decide +kernel) (by decide +kernel), g_t 1369 (by decide +kernel) (by decide +kernel)⟩
theorem mt_X9_personTold : gMeth yX9_personTold cX9_personTold 8 (some .int) 2 := ⟨g_t 1374 (by decide +kernel) (by decide +kernel), g_t 6 (by decide +kernel) (by decide +kernel), by decide +kernel, by decide⟩
theorem mi_X9_personTold : gInst yX9_personTold := ⟨g_t 1373 (by decide +kernel) (by decide +kernel), g_p 61 (q := (⟨"CourtMailModel", "personTold", "(II)I"⟩, 35)) (by decide +kernel) (by decide +kernel)⟩
theorem mt_X8_isIn : gMeth yX8_isIn cX8_isIn 3 (some .boolean) 2 := ⟨g_t 1378 (by decide +kernel) (by decide +kernel), g_t 7 (by decide +kernel) (by decide +kernel), by decide +kernel, by decide⟩
theorem mi_X8_isIn : gInst yX8_isIn := ⟨g_t 1376 (by decide +kernel) (by decide +kernel), g_t 1377 (by decide +kernel) (by decide +kernel)⟩
theorem mt_X8_reach : gMeth yX8_reach cX8_reach 3 (some .int) 2 := ⟨g_t 1382 (by decide +kernel) (by decide +kernel), g_t 7 (by decide +kernel) (by decide +kernel), by decide +kernel, by decide⟩
theorem mi_X8_reach : gInst yX8_reach := ⟨g_t 1380 (by decide +kernel) (by decide +kernel), g_t 1381 (by decide +kernel) (by decide +kernel)⟩
theorem mt_X9_caseOf : gMeth yX9_caseOf cX9_caseOf 3 (some .int) 2 := ⟨g_t 1387 (by decide +kernel) (by decide +kernel), g_t 6 (by decide +kernel) (by decide +kernel), by decide +kernel, by decide⟩
theorem mi_X9_caseOf : gInst yX9_caseOf := ⟨g_t 1385 (by decide +kernel) (by decide +kernel), g_t 1386 (by decide +kernel) (by decide +kernel)⟩
theorem mt_X9_caseTold : gMeth yX9_caseTold cX9_caseTold 8 (some .int) 2 := ⟨g_t 1391 (by decide +kernel) (by decide +kernel), g_t 6 (by decide +kernel) (by decide +kernel), by decide +kernel, by decide⟩
theorem mi_X9_caseTold : gInst yX9_caseTold := ⟨g_t 1390 (by decide +kernel) (by decide +kernel), g_p 62 (q := (⟨"CourtMailModel", "caseTold", "(II)I"⟩, 35)) (by decide +kernel) (by decide +kernel)⟩
theorem mt_X9_isGood : gMeth yX9_isGood cX9_isGood 6 (some .boolean) 1 := ⟨g_t 1395 (by decide +kernel) (by decide +kernel), g_t 6 (by decide +kernel) (by decide +kernel), by decide +kernel, by decide⟩
theorem mi_X9_isGood : gInst yX9_isGood := ⟨g_t 1394 (by decide +kernel) (by decide +kernel), g_p 63 (q := (⟨"CourtMailModel", "isGood", "(I)Z"⟩, 35)) (by decide +kernel) (by decide +kernel)⟩
theorem mt_X9_gaps : gMeth yX9_gaps cX9_gaps 4 (some .int) 1 := ⟨g_t 1399 (by decide +kernel) (by decide +kernel), g_t 6 (by decide +kernel) (by decide +kernel), by decide +kernel, by decide⟩
theorem mi_X9_gaps : gInst yX9_gaps := ⟨g_t 1398 (by decide +kernel) (by decide +kernel), g_p 64 (q := (⟨"CourtMailModel", "gaps", "(I)I"⟩, 35)) (by decide +kernel) (by decide +kernel)⟩
theorem mt_X9_linkTold : gMeth yX9_linkTold cX9_linkTold 4 (some .int) 3 := ⟨g_t 1403 (by decide +kernel) (by decide +kernel), g_t 6 (by decide +kernel) (by decide +kernel), by decide +kernel, by decide⟩
theorem mi_X9_linkTold : gInst yX9_linkTold := ⟨g_t 1402 (by decide +kernel) (by decide +kernel), g_p 65 (q := (⟨"CourtMailModel", "linkTold", "(III)I"⟩, 35)) (by decide +kernel) (by decide +kernel)⟩
theorem mt_X9_read : gMeth yX9_read cX9_read 4 (some .int) 2 := ⟨g_t 1407 (by decide +kernel) (by decide +kernel), g_t 6 (by decide +kernel) (by decide +kernel), by decide +kernel, by decide⟩
theorem mi_X9_read : gInst yX9_read := ⟨g_t 1405 (by decide +kernel) (by decide +kernel), g_t 1406 (by decide +kernel) (by decide +kernel)⟩
theorem mt_X9_isPair : gMeth yX9_isPair cX9_isPair 3 (some .boolean) 2 := ⟨g_t 1411 (by decide +kernel) (by decide +kernel), g_t 6 (by decide +kernel) (by decide +kernel), by decide +kernel, by decide⟩
theorem mi_X9_isPair : gInst yX9_isPair := ⟨g_t 1410 (by decide +kernel) (by decide +kernel), g_p 66 (q := (⟨"CourtMailModel", "isPair", "(II)Z"⟩, 35)) (by decide +kernel) (by decide +kernel)⟩
theorem mt_X9_seenBy : gMeth yX9_seenBy cX9_seenBy 4 (some .int) 3 := ⟨g_t 1415 (by decide +kernel) (by decide +kernel), g_t 6 (by decide +kernel) (by decide +kernel), by decide +kernel, by decide⟩
theorem mi_X9_seenBy : gInst yX9_seenBy := ⟨g_t 1414 (by decide +kernel) (by decide +kernel), g_p 67 (q := (⟨"CourtMailModel", "seenBy", "(III)I"⟩, 35)) (by decide +kernel) (by decide +kernel)⟩
theorem mt_X9_seen : gMeth yX9_seen cX9_seen 5 (some .int) 3 := ⟨g_t 1420 (by decide +kernel) (by decide +kernel), g_t 6 (by decide +kernel) (by decide +kernel), by decide +kernel, by decide⟩
theorem mi_X9_seen : gInst yX9_seen := ⟨g_t 1419 (by decide +kernel) (by decide +kernel), g_p 68 (q := (⟨"CourtMailModel", "seen", "(III)I"⟩, 35)) (by decide +kernel) (by decide +kernel)⟩
theorem mt_X9_byteAt : gMeth yX9_byteAt cX9_byteAt 2 (some .int) 1 := ⟨g_t 1424 (by decide +kernel) (by decide +kernel), g_t 6 (by decide +kernel) (by decide +kernel), by decide +kernel, by decide⟩
theorem mi_X9_byteAt : gInst yX9_byteAt := ⟨g_t 1422 (by decide +kernel) (by decide +kernel), g_t 1423 (by decide +kernel) (by decide +kernel)⟩
theorem mt_X9_hidden : gMeth yX9_hidden cX9_hidden 3 (some .int) 2 := ⟨g_t 1428 (by decide +kernel) (by decide +kernel), g_t 6 (by decide +kernel) (by decide +kernel), by decide +kernel, by decide⟩
theorem mi_X9_hidden : gInst yX9_hidden := ⟨g_t 1426 (by decide +kernel) (by decide +kernel), g_t 1427 (by decide +kernel) (by decide +kernel)⟩
theorem mt_X9_hiddenOf : gMeth yX9_hiddenOf cX9_hiddenOf 5 (some .int) 2 := ⟨g_t 1432 (by decide +kernel) (by decide +kernel), g_t 6 (by decide +kernel) (by decide +kernel), by decide +kernel, by decide⟩
theorem mi_X9_hiddenOf : gInst yX9_hiddenOf := ⟨g_t 1431 (by decide +kernel) (by decide +kernel), g_p 69 (q := (⟨"CourtMailModel", "hiddenOf", "(II)I"⟩, 35)) (by decide +kernel) (by decide +kernel)⟩
theorem mt_X9_differs : gMeth yX9_differs cX9_differs 5 (some .int) 3 := ⟨g_t 1436 (by decide +kernel) (by decide +kernel), g_t 6 (by decide +kernel) (by decide +kernel), by decide +kernel, by decide⟩
theorem mi_X9_differs : gInst yX9_differs := ⟨g_t 1434 (by decide +kernel) (by decide +kernel), g_t 1435 (by decide +kernel) (by decide +kernel)⟩
theorem mt_X9_find : gMeth yX9_find cX9_find 5 (some .int) 2 := ⟨g_t 1440 (by decide +kernel) (by decide +kernel), g_t 6 (by decide +kernel) (by decide +kernel), by decide +kernel, by decide⟩
theorem mi_X9_find : gInst yX9_find := ⟨g_t 1438 (by decide +kernel) (by decide +kernel), g_t 1439 (by decide +kernel) (by decide +kernel)⟩
theorem mt_X9_least : gMeth yX9_least cX9_least 6 (some .int) 3 := ⟨g_t 1444 (by decide +kernel) (by decide +kernel), g_t 6 (by decide +kernel) (by decide +kernel), by decide +kernel, by decide⟩
theorem mi_X9_least : gInst yX9_least := ⟨g_t 1442 (by decide +kernel) (by decide +kernel), g_t 1443 (by decide +kernel) (by decide +kernel)⟩
theorem mt_X9_lend : gMeth yX9_lend cX9_lend 4 (some .int) 3 := ⟨g_t 1448 (by decide +kernel) (by decide +kernel), g_t 6 (by decide +kernel) (by decide +kernel), by decide +kernel, by decide⟩
theorem mi_X9_lend : gInst yX9_lend := ⟨g_t 1446 (by decide +kernel) (by decide +kernel), g_t 1447 (by decide +kernel) (by decide +kernel)⟩
theorem mt_X9_back : gMeth yX9_back cX9_back 3 (some .int) 1 := ⟨g_t 1452 (by decide +kernel) (by decide +kernel), g_t 6 (by decide +kernel) (by decide +kernel), by decide +kernel, by decide⟩
theorem mi_X9_back : gInst yX9_back := ⟨g_t 1450 (by decide +kernel) (by decide +kernel), g_t 1451 (by decide +kernel) (by decide +kernel)⟩
theorem mt_X9_takeIn : gMeth yX9_takeIn cX9_takeIn 2 (some .int) 1 := ⟨g_t 1456 (by decide +kernel) (by decide +kernel), g_t 6 (by decide +kernel) (by decide +kernel), by decide +kernel, by decide⟩
theorem mi_X9_takeIn : gInst yX9_takeIn := ⟨g_t 1454 (by decide +kernel) (by decide +kernel), g_t 1455 (by decide +kernel) (by decide +kernel)⟩
theorem mt_X9_hand : gMeth yX9_hand cX9_hand 3 (some .int) 2 := ⟨g_t 1460 (by decide +kernel) (by decide +kernel), g_t 6 (by decide +kernel) (by decide +kernel), by decide +kernel, by decide⟩
theorem mi_X9_hand : gInst yX9_hand := ⟨g_t 1458 (by decide +kernel) (by decide +kernel), g_t 1459 (by decide +kernel) (by decide +kernel)⟩
theorem mt_X9_isExhibit : gMeth yX9_isExhibit cX9_isExhibit 2 (some .boolean) 1 := ⟨g_t 1464 (by decide +kernel) (by decide +kernel), g_t 6 (by decide +kernel) (by decide +kernel), by decide +kernel, by decide⟩
theorem mi_X9_isExhibit : gInst yX9_isExhibit := ⟨g_t 1463 (by decide +kernel) (by decide +kernel), g_p 70 (q := (⟨"CourtMailModel", "isExhibit", "(I)Z"⟩, 35)) (by decide +kernel) (by decide +kernel)⟩
theorem mt_X9_add : gMeth yX9_add cX9_add 6 (some .int) 4 := ⟨g_t 1468 (by decide +kernel) (by decide +kernel), g_t 6 (by decide +kernel) (by decide +kernel), by decide +kernel, by decide⟩
theorem mi_X9_add : gInst yX9_add := ⟨g_t 1467 (by decide +kernel) (by decide +kernel), g_p 71 (q := (⟨"CourtMailModel", "add", "(IIII)I"⟩, 35)) (by decide +kernel) (by decide +kernel)⟩
theorem mt_X9_unseal : gMeth yX9_unseal cX9_unseal 2 (some .int) 1 := ⟨g_t 1473 (by decide +kernel) (by decide +kernel), g_t 6 (by decide +kernel) (by decide +kernel), by decide +kernel, by decide⟩
theorem mi_X9_unseal : gInst yX9_unseal := ⟨g_t 1471 (by decide +kernel) (by decide +kernel), g_t 1472 (by decide +kernel) (by decide +kernel)⟩
theorem mt_X9_lose : gMeth yX9_lose cX9_lose 3 (some .int) 1 := ⟨g_t 1477 (by decide +kernel) (by decide +kernel), g_t 6 (by decide +kernel) (by decide +kernel), by decide +kernel, by decide⟩
theorem mi_X9_lose : gInst yX9_lose := ⟨g_t 1475 (by decide +kernel) (by decide +kernel), g_t 1476 (by decide +kernel) (by decide +kernel)⟩
theorem mt_X9_found : gMeth yX9_found cX9_found 3 (some .int) 2 := ⟨g_t 1481 (by decide +kernel) (by decide +kernel), g_t 6 (by decide +kernel) (by decide +kernel), by decide +kernel, by decide⟩
theorem mi_X9_found : gInst yX9_found := ⟨g_t 1479 (by decide +kernel) (by decide +kernel), g_t 1480 (by decide +kernel) (by decide +kernel)⟩
theorem mt_X9_exhibit : gMeth yX9_exhibit cX9_exhibit 3 (some .int) 2 := ⟨g_t 1485 (by decide +kernel) (by decide +kernel), g_t 6 (by decide +kernel) (by decide +kernel), by decide +kernel, by decide⟩
theorem mi_X9_exhibit : gInst yX9_exhibit := ⟨g_t 1483 (by decide +kernel) (by decide +kernel), g_t 1484 (by decide +kernel) (by decide +kernel)⟩
theorem mt_X9_exhibitTold : gMeth yX9_exhibitTold cX9_exhibitTold 5 (some .int) 2 := ⟨g_t 1489 (by decide +kernel) (by decide +kernel), g_t 6 (by decide +kernel) (by decide +kernel), by decide +kernel, by decide⟩
theorem mi_X9_exhibitTold : gInst yX9_exhibitTold := ⟨g_t 1488 (by decide +kernel) (by decide +kernel), g_p 72 (q := (⟨"CourtMailModel", "exhibitTold", "(II)I"⟩, 35)) (by decide +kernel) (by decide +kernel)⟩
theorem mt_X9_link : gMeth yX9_link cX9_link 4 (some .int) 3 := ⟨g_t 1493 (by decide +kernel) (by decide +kernel), g_t 6 (by decide +kernel) (by decide +kernel), by decide +kernel, by decide⟩
theorem mi_X9_link : gInst yX9_link := ⟨g_t 1491 (by decide +kernel) (by decide +kernel), g_t 1492 (by decide +kernel) (by decide +kernel)⟩
theorem mt_X9_send : gMeth yX9_send cX9_send 4 (some .int) 3 := ⟨g_t 1497 (by decide +kernel) (by decide +kernel), g_t 6 (by decide +kernel) (by decide +kernel), by decide +kernel, by decide⟩
theorem mi_X9_send : gInst yX9_send := ⟨g_t 1495 (by decide +kernel) (by decide +kernel), g_t 1496 (by decide +kernel) (by decide +kernel)⟩
theorem mt_X9_letter : gMeth yX9_letter cX9_letter 3 (some .int) 2 := ⟨g_t 1501 (by decide +kernel) (by decide +kernel), g_t 6 (by decide +kernel) (by decide +kernel), by decide +kernel, by decide⟩
theorem mi_X9_letter : gInst yX9_letter := ⟨g_t 1499 (by decide +kernel) (by decide +kernel), g_t 1500 (by decide +kernel) (by decide +kernel)⟩
theorem mt_X9_letterTold : gMeth yX9_letterTold cX9_letterTold 4 (some .int) 2 := ⟨g_t 1505 (by decide +kernel) (by decide +kernel), g_t 6 (by decide +kernel) (by decide +kernel), by decide +kernel, by decide⟩
theorem mi_X9_letterTold : gInst yX9_letterTold := ⟨g_t 1504 (by decide +kernel) (by decide +kernel), g_p 73 (q := (⟨"CourtMailModel", "letterTold", "(II)I"⟩, 35)) (by decide +kernel) (by decide +kernel)⟩
theorem mt_X9_pass : gMeth yX9_pass cX9_pass 4 (some .int) 1 := ⟨g_t 1509 (by decide +kernel) (by decide +kernel), g_t 6 (by decide +kernel) (by decide +kernel), by decide +kernel, by decide⟩
theorem mi_X9_pass : gInst yX9_pass := ⟨g_t 1507 (by decide +kernel) (by decide +kernel), g_t 1508 (by decide +kernel) (by decide +kernel)⟩
theorem mt_X8_pass : gMeth yX8_pass cX8_pass 5 (some .int) 0 := ⟨g_t 1513 (by decide +kernel) (by decide +kernel), g_t 7 (by decide +kernel) (by decide +kernel), by decide +kernel, by decide⟩
theorem mi_X8_pass : gInst yX8_pass := ⟨g_t 1511 (by decide +kernel) (by decide +kernel), g_t 1512 (by decide +kernel) (by decide +kernel)⟩
theorem mt_X9_clerks : gMeth yX9_clerks cX9_clerks 3 (some .int) 0 := ⟨g_t 1517 (by decide +kernel) (by decide +kernel), g_t 6 (by decide +kernel) (by decide +kernel), by decide +kernel, by decide⟩
theorem mi_X9_clerks : gInst yX9_clerks := ⟨g_t 1516 (by decide +kernel) (by decide +kernel), g_p 74 (q := (⟨"CourtMailModel", "clerks", "()I"⟩, 35)) (by decide +kernel) (by decide +kernel)⟩
theorem mt_X8_next : gMeth yX8_next cX8_next 3 (some .int) 0 := ⟨g_t 1521 (by decide +kernel) (by decide +kernel), g_t 7 (by decide +kernel) (by decide +kernel), by decide +kernel, by decide⟩
theorem mi_X8_next : gInst yX8_next := ⟨g_t 1520 (by decide +kernel) (by decide +kernel), g_p 75 (q := (⟨"CourtMailModel$State", "next", "()I"⟩, 9)) (by decide +kernel) (by decide +kernel)⟩
theorem mt_X9_arrives : gMeth yX9_arrives cX9_arrives 3 (some .int) 1 := ⟨g_t 1527 (by decide +kernel) (by decide +kernel), g_t 6 (by decide +kernel) (by decide +kernel), by decide +kernel, by decide⟩
theorem mi_X9_arrives : gInst yX9_arrives := ⟨g_t 1525 (by decide +kernel) (by decide +kernel), g_t 1526 (by decide +kernel) (by decide +kernel)⟩
theorem mt_X8_become : gMeth yX8_become cX8_become 2 none 1 := ⟨g_t 1531 (by decide +kernel) (by decide +kernel), g_t 7 (by decide +kernel) (by decide +kernel), by decide +kernel, by decide⟩
theorem mi_X8_become : gInst yX8_become := ⟨g_t 1529 (by decide +kernel) (by decide +kernel), g_t 1530 (by decide +kernel) (by decide +kernel)⟩
theorem mt_X8_copy : gMeth yX8_copy cX8_copy 3 none 2 := ⟨g_t 1535 (by decide +kernel) (by decide +kernel), g_t 7 (by decide +kernel) (by decide +kernel), by decide +kernel, by decide⟩
theorem mi_X8_copy : gInst yX8_copy := ⟨g_t 1534 (by decide +kernel) (by decide +kernel), g_p 76 (q := (⟨"CourtMailModel$State", "copy", "([I[I)V"⟩, 9)) (by decide +kernel) (by decide +kernel)⟩
theorem mt_X9_count : gMeth yX9_count cX9_count 2 (some .int) 1 := ⟨g_t 1540 (by decide +kernel) (by decide +kernel), g_t 6 (by decide +kernel) (by decide +kernel), by decide +kernel, by decide⟩
theorem mi_X9_count : gInst yX9_count := ⟨g_t 1538 (by decide +kernel) (by decide +kernel), g_t 1539 (by decide +kernel) (by decide +kernel)⟩
theorem mt_X9_counted : gMeth yX9_counted cX9_counted 7 (some .int) 1 := ⟨g_t 1544 (by decide +kernel) (by decide +kernel), g_t 6 (by decide +kernel) (by decide +kernel), by decide +kernel, by decide⟩
theorem mi_X9_counted : gInst yX9_counted := ⟨g_t 1543 (by decide +kernel) (by decide +kernel), g_p 77 (q := (⟨"CourtMailModel", "counted", "(I)I"⟩, 35)) (by decide +kernel) (by decide +kernel)⟩
theorem mt_X9_sees : gMeth yX9_sees cX9_sees 7 (some .int) 1 := ⟨g_t 1548 (by decide +kernel) (by decide +kernel), g_t 6 (by decide +kernel) (by decide +kernel), by decide +kernel, by decide⟩
theorem mi_X9_sees : gInst yX9_sees := ⟨g_t 1546 (by decide +kernel) (by decide +kernel), g_t 1547 (by decide +kernel) (by decide +kernel)⟩
theorem mt_X9_plain : gMeth yX9_plain cX9_plain 5 (some .double) 0 := ⟨g_t 1552 (by decide +kernel) (by decide +kernel), g_t 6 (by decide +kernel) (by decide +kernel), by decide +kernel, by decide⟩
theorem mi_X9_plain : gInst yX9_plain := ⟨g_t 1550 (by decide +kernel) (by decide +kernel), g_t 1551 (by decide +kernel) (by decide +kernel)⟩
theorem mt_X9_digest : gMeth yX9_digest cX9_digest 6 (some .long) 0 := ⟨g_t 1556 (by decide +kernel) (by decide +kernel), g_t 6 (by decide +kernel) (by decide +kernel), by decide +kernel, by decide⟩
theorem mi_X9_digest : gInst yX9_digest := ⟨g_t 1554 (by decide +kernel) (by decide +kernel), g_t 1555 (by decide +kernel) (by decide +kernel)⟩
theorem mh_L_feed : Cond.codeWith yL_feed cL_feed 8 (some .int) [((0 : Nat), (16 : Nat), (19 : Nat), (13 : Nat))] ∈ gWords := g_t 342 (by decide +kernel) (by decide +kernel)
theorem md_L_feed : yL_feed.cls ≠ "java/lang/invoke/MethodHandle" ∧ yL_feed.cls ≠ "java/lang/invoke/VarHandle" ∧ (parseMethodDescriptor yL_feed.desc).map (fun d => d.parameters.length) = some 7 := by decide +kernel
theorem ms_L_feed : gStat yL_feed := g_t 341 (by decide +kernel) (by decide +kernel)
theorem mh_L_trim : Cond.codeWith yL_trim cL_trim 4 (some .int) [((0 : Nat), (9 : Nat), (12 : Nat), (19 : Nat))] ∈ gWords := g_t 421 (by decide +kernel) (by decide +kernel)
theorem md_L_trim : yL_trim.cls ≠ "java/lang/invoke/MethodHandle" ∧ yL_trim.cls ≠ "java/lang/invoke/VarHandle" ∧ (parseMethodDescriptor yL_trim.desc).map (fun d => d.parameters.length) = some 3 := by decide +kernel
theorem ms_L_trim : gStat yL_trim := g_t 420 (by decide +kernel) (by decide +kernel)
theorem mh_L_file : Cond.codeWith yL_file cL_file 4 (some .int) [((0 : Nat), (9 : Nat), (12 : Nat), (24 : Nat)), ((0 : Nat), (9 : Nat), (15 : Nat), (13 : Nat))] ∈ gWords := g_t 445 (by decide +kernel) (by decide +kernel)
theorem md_L_file : yL_file.cls ≠ "java/lang/invoke/MethodHandle" ∧ yL_file.cls ≠ "java/lang/invoke/VarHandle" ∧ (parseMethodDescriptor yL_file.desc).map (fun d => d.parameters.length) = some 3 := by decide +kernel
theorem ms_L_file : gStat yL_file := g_t 444 (by decide +kernel) (by decide +kernel)
theorem mh_L_veil : Cond.codeWith yL_veil cL_veil 7 (some .int) [((0 : Nat), (14 : Nat), (17 : Nat), (24 : Nat)), ((0 : Nat), (14 : Nat), (21 : Nat), (19 : Nat))] ∈ gWords := g_t 634 (by decide +kernel) (by decide +kernel)
theorem md_L_veil : yL_veil.cls ≠ "java/lang/invoke/MethodHandle" ∧ yL_veil.cls ≠ "java/lang/invoke/VarHandle" ∧ (parseMethodDescriptor yL_veil.desc).map (fun d => d.parameters.length) = some 6 := by decide +kernel
theorem ms_L_veil : gStat yL_veil := g_t 633 (by decide +kernel) (by decide +kernel)
theorem mh_L_document : Cond.codeWith yL_document cL_document 5 (some .int) [((0 : Nat), (10 : Nat), (13 : Nat), (24 : Nat))] ∈ gWords := g_t 658 (by decide +kernel) (by decide +kernel)
theorem md_L_document : yL_document.cls ≠ "java/lang/invoke/MethodHandle" ∧ yL_document.cls ≠ "java/lang/invoke/VarHandle" ∧ (parseMethodDescriptor yL_document.desc).map (fun d => d.parameters.length) = some 4 := by decide +kernel
theorem ms_L_document : gStat yL_document := g_t 657 (by decide +kernel) (by decide +kernel)
theorem mh_L_open : Cond.codeWith yL_open cL_open 4 (some .int) [((0 : Nat), (9 : Nat), (12 : Nat), (19 : Nat)), ((0 : Nat), (9 : Nat), (15 : Nat), (13 : Nat))] ∈ gWords := g_t 666 (by decide +kernel) (by decide +kernel)
theorem md_L_open : yL_open.cls ≠ "java/lang/invoke/MethodHandle" ∧ yL_open.cls ≠ "java/lang/invoke/VarHandle" ∧ (parseMethodDescriptor yL_open.desc).map (fun d => d.parameters.length) = some 3 := by decide +kernel
theorem ms_L_open : gStat yL_open := g_t 665 (by decide +kernel) (by decide +kernel)
theorem mh_L_seal : Cond.codeWith yL_seal cL_seal 5 (some .int) [((0 : Nat), (10 : Nat), (13 : Nat), (24 : Nat)), ((0 : Nat), (10 : Nat), (17 : Nat), (19 : Nat))] ∈ gWords := g_t 691 (by decide +kernel) (by decide +kernel)
theorem md_L_seal : yL_seal.cls ≠ "java/lang/invoke/MethodHandle" ∧ yL_seal.cls ≠ "java/lang/invoke/VarHandle" ∧ (parseMethodDescriptor yL_seal.desc).map (fun d => d.parameters.length) = some 4 := by decide +kernel
theorem ms_L_seal : gStat yL_seal := g_t 690 (by decide +kernel) (by decide +kernel)
theorem mh_L_addPerson : Cond.codeWith yL_addPerson cL_addPerson 5 (some .int) [((0 : Nat), (10 : Nat), (13 : Nat), (19 : Nat)), ((0 : Nat), (10 : Nat), (17 : Nat), (13 : Nat))] ∈ gWords := g_t 698 (by decide +kernel) (by decide +kernel)
theorem md_L_addPerson : yL_addPerson.cls ≠ "java/lang/invoke/MethodHandle" ∧ yL_addPerson.cls ≠ "java/lang/invoke/VarHandle" ∧ (parseMethodDescriptor yL_addPerson.desc).map (fun d => d.parameters.length) = some 4 := by decide +kernel
theorem ms_L_addPerson : gStat yL_addPerson := g_t 697 (by decide +kernel) (by decide +kernel)
theorem mh_L_attach : Cond.codeWith yL_attach cL_attach 5 (some .int) [((0 : Nat), (17 : Nat), (20 : Nat), (24 : Nat))] ∈ gWords := g_t 736 (by decide +kernel) (by decide +kernel)
theorem md_L_attach : yL_attach.cls ≠ "java/lang/invoke/MethodHandle" ∧ yL_attach.cls ≠ "java/lang/invoke/VarHandle" ∧ (parseMethodDescriptor yL_attach.desc).map (fun d => d.parameters.length) = some 4 := by decide +kernel
theorem ms_L_attach : gStat yL_attach := g_t 735 (by decide +kernel) (by decide +kernel)
theorem mh_L_person : Cond.codeWith yL_person cL_person 5 (some .int) [((0 : Nat), (10 : Nat), (13 : Nat), (24 : Nat))] ∈ gWords := g_t 749 (by decide +kernel) (by decide +kernel)
theorem md_L_person : yL_person.cls ≠ "java/lang/invoke/MethodHandle" ∧ yL_person.cls ≠ "java/lang/invoke/VarHandle" ∧ (parseMethodDescriptor yL_person.desc).map (fun d => d.parameters.length) = some 4 := by decide +kernel
theorem ms_L_person : gStat yL_person := g_t 748 (by decide +kernel) (by decide +kernel)
theorem mh_L_caseOf : Cond.codeWith yL_caseOf cL_caseOf 5 (some .int) [((0 : Nat), (10 : Nat), (13 : Nat), (24 : Nat))] ∈ gWords := g_t 757 (by decide +kernel) (by decide +kernel)
theorem md_L_caseOf : yL_caseOf.cls ≠ "java/lang/invoke/MethodHandle" ∧ yL_caseOf.cls ≠ "java/lang/invoke/VarHandle" ∧ (parseMethodDescriptor yL_caseOf.desc).map (fun d => d.parameters.length) = some 4 := by decide +kernel
theorem ms_L_caseOf : gStat yL_caseOf := g_t 756 (by decide +kernel) (by decide +kernel)
theorem mh_L_read : Cond.codeWith yL_read cL_read 5 (some .int) [((0 : Nat), (10 : Nat), (13 : Nat), (24 : Nat))] ∈ gWords := g_t 765 (by decide +kernel) (by decide +kernel)
theorem md_L_read : yL_read.cls ≠ "java/lang/invoke/MethodHandle" ∧ yL_read.cls ≠ "java/lang/invoke/VarHandle" ∧ (parseMethodDescriptor yL_read.desc).map (fun d => d.parameters.length) = some 4 := by decide +kernel
theorem ms_L_read : gStat yL_read := g_t 764 (by decide +kernel) (by decide +kernel)
theorem mh_L_byteAt : Cond.codeWith yL_byteAt cL_byteAt 4 (some .int) [((0 : Nat), (9 : Nat), (12 : Nat), (24 : Nat))] ∈ gWords := g_t 791 (by decide +kernel) (by decide +kernel)
theorem md_L_byteAt : yL_byteAt.cls ≠ "java/lang/invoke/MethodHandle" ∧ yL_byteAt.cls ≠ "java/lang/invoke/VarHandle" ∧ (parseMethodDescriptor yL_byteAt.desc).map (fun d => d.parameters.length) = some 3 := by decide +kernel
theorem ms_L_byteAt : gStat yL_byteAt := g_t 790 (by decide +kernel) (by decide +kernel)
theorem mh_L_hidden : Cond.codeWith yL_hidden cL_hidden 5 (some .int) [((0 : Nat), (10 : Nat), (13 : Nat), (24 : Nat))] ∈ gWords := g_t 799 (by decide +kernel) (by decide +kernel)
theorem md_L_hidden : yL_hidden.cls ≠ "java/lang/invoke/MethodHandle" ∧ yL_hidden.cls ≠ "java/lang/invoke/VarHandle" ∧ (parseMethodDescriptor yL_hidden.desc).map (fun d => d.parameters.length) = some 4 := by decide +kernel
theorem ms_L_hidden : gStat yL_hidden := g_t 798 (by decide +kernel) (by decide +kernel)
theorem mh_L_differs : Cond.codeWith yL_differs cL_differs 6 (some .int) [((0 : Nat), (12 : Nat), (15 : Nat), (24 : Nat))] ∈ gWords := g_t 814 (by decide +kernel) (by decide +kernel)
theorem md_L_differs : yL_differs.cls ≠ "java/lang/invoke/MethodHandle" ∧ yL_differs.cls ≠ "java/lang/invoke/VarHandle" ∧ (parseMethodDescriptor yL_differs.desc).map (fun d => d.parameters.length) = some 5 := by decide +kernel
theorem ms_L_differs : gStat yL_differs := g_t 813 (by decide +kernel) (by decide +kernel)
theorem mh_L_find : Cond.codeWith yL_find cL_find 5 (some .int) [((0 : Nat), (10 : Nat), (13 : Nat), (24 : Nat))] ∈ gWords := g_t 821 (by decide +kernel) (by decide +kernel)
theorem md_L_find : yL_find.cls ≠ "java/lang/invoke/MethodHandle" ∧ yL_find.cls ≠ "java/lang/invoke/VarHandle" ∧ (parseMethodDescriptor yL_find.desc).map (fun d => d.parameters.length) = some 4 := by decide +kernel
theorem ms_L_find : gStat yL_find := g_t 820 (by decide +kernel) (by decide +kernel)
theorem mh_L_least : Cond.codeWith yL_least cL_least 6 (some .int) [((0 : Nat), (12 : Nat), (15 : Nat), (24 : Nat)), ((0 : Nat), (12 : Nat), (19 : Nat), (19 : Nat))] ∈ gWords := g_t 832 (by decide +kernel) (by decide +kernel)
theorem md_L_least : yL_least.cls ≠ "java/lang/invoke/MethodHandle" ∧ yL_least.cls ≠ "java/lang/invoke/VarHandle" ∧ (parseMethodDescriptor yL_least.desc).map (fun d => d.parameters.length) = some 5 := by decide +kernel
theorem ms_L_least : gStat yL_least := g_t 831 (by decide +kernel) (by decide +kernel)
theorem mh_L_lend : Cond.codeWith yL_lend cL_lend 6 (some .int) [((0 : Nat), (12 : Nat), (15 : Nat), (24 : Nat)), ((0 : Nat), (12 : Nat), (19 : Nat), (19 : Nat)), ((0 : Nat), (12 : Nat), (23 : Nat), (13 : Nat))] ∈ gWords := g_t 840 (by decide +kernel) (by decide +kernel)
theorem md_L_lend : yL_lend.cls ≠ "java/lang/invoke/MethodHandle" ∧ yL_lend.cls ≠ "java/lang/invoke/VarHandle" ∧ (parseMethodDescriptor yL_lend.desc).map (fun d => d.parameters.length) = some 5 := by decide +kernel
theorem ms_L_lend : gStat yL_lend := g_t 839 (by decide +kernel) (by decide +kernel)
theorem mh_L_back : Cond.codeWith yL_back cL_back 4 (some .int) [((0 : Nat), (9 : Nat), (12 : Nat), (24 : Nat))] ∈ gWords := g_t 850 (by decide +kernel) (by decide +kernel)
theorem md_L_back : yL_back.cls ≠ "java/lang/invoke/MethodHandle" ∧ yL_back.cls ≠ "java/lang/invoke/VarHandle" ∧ (parseMethodDescriptor yL_back.desc).map (fun d => d.parameters.length) = some 3 := by decide +kernel
theorem ms_L_back : gStat yL_back := g_t 849 (by decide +kernel) (by decide +kernel)
theorem mh_L_takeIn : Cond.codeWith yL_takeIn cL_takeIn 4 (some .int) [((0 : Nat), (9 : Nat), (12 : Nat), (24 : Nat)), ((0 : Nat), (9 : Nat), (15 : Nat), (13 : Nat))] ∈ gWords := g_t 861 (by decide +kernel) (by decide +kernel)
theorem md_L_takeIn : yL_takeIn.cls ≠ "java/lang/invoke/MethodHandle" ∧ yL_takeIn.cls ≠ "java/lang/invoke/VarHandle" ∧ (parseMethodDescriptor yL_takeIn.desc).map (fun d => d.parameters.length) = some 3 := by decide +kernel
theorem ms_L_takeIn : gStat yL_takeIn := g_t 860 (by decide +kernel) (by decide +kernel)
theorem mh_L_hand : Cond.codeWith yL_hand cL_hand 5 (some .int) [((0 : Nat), (10 : Nat), (13 : Nat), (24 : Nat)), ((0 : Nat), (10 : Nat), (17 : Nat), (13 : Nat))] ∈ gWords := g_t 901 (by decide +kernel) (by decide +kernel)
theorem md_L_hand : yL_hand.cls ≠ "java/lang/invoke/MethodHandle" ∧ yL_hand.cls ≠ "java/lang/invoke/VarHandle" ∧ (parseMethodDescriptor yL_hand.desc).map (fun d => d.parameters.length) = some 4 := by decide +kernel
theorem ms_L_hand : gStat yL_hand := g_t 900 (by decide +kernel) (by decide +kernel)
theorem mh_L_unseal : Cond.codeWith yL_unseal cL_unseal 4 (some .int) [((0 : Nat), (9 : Nat), (12 : Nat), (24 : Nat)), ((0 : Nat), (9 : Nat), (15 : Nat), (13 : Nat))] ∈ gWords := g_t 947 (by decide +kernel) (by decide +kernel)
theorem md_L_unseal : yL_unseal.cls ≠ "java/lang/invoke/MethodHandle" ∧ yL_unseal.cls ≠ "java/lang/invoke/VarHandle" ∧ (parseMethodDescriptor yL_unseal.desc).map (fun d => d.parameters.length) = some 3 := by decide +kernel
theorem ms_L_unseal : gStat yL_unseal := g_t 946 (by decide +kernel) (by decide +kernel)
theorem mh_L_lose : Cond.codeWith yL_lose cL_lose 4 (some .int) [((0 : Nat), (9 : Nat), (12 : Nat), (24 : Nat)), ((0 : Nat), (9 : Nat), (15 : Nat), (13 : Nat))] ∈ gWords := g_t 956 (by decide +kernel) (by decide +kernel)
theorem md_L_lose : yL_lose.cls ≠ "java/lang/invoke/MethodHandle" ∧ yL_lose.cls ≠ "java/lang/invoke/VarHandle" ∧ (parseMethodDescriptor yL_lose.desc).map (fun d => d.parameters.length) = some 3 := by decide +kernel
theorem ms_L_lose : gStat yL_lose := g_t 955 (by decide +kernel) (by decide +kernel)
theorem mh_L_found : Cond.codeWith yL_found cL_found 5 (some .int) [((0 : Nat), (10 : Nat), (13 : Nat), (24 : Nat)), ((0 : Nat), (10 : Nat), (17 : Nat), (13 : Nat))] ∈ gWords := g_t 964 (by decide +kernel) (by decide +kernel)
theorem md_L_found : yL_found.cls ≠ "java/lang/invoke/MethodHandle" ∧ yL_found.cls ≠ "java/lang/invoke/VarHandle" ∧ (parseMethodDescriptor yL_found.desc).map (fun d => d.parameters.length) = some 4 := by decide +kernel
theorem ms_L_found : gStat yL_found := g_t 963 (by decide +kernel) (by decide +kernel)
theorem mh_L_exhibit : Cond.codeWith yL_exhibit cL_exhibit 5 (some .int) [((0 : Nat), (10 : Nat), (13 : Nat), (24 : Nat))] ∈ gWords := g_t 972 (by decide +kernel) (by decide +kernel)
theorem md_L_exhibit : yL_exhibit.cls ≠ "java/lang/invoke/MethodHandle" ∧ yL_exhibit.cls ≠ "java/lang/invoke/VarHandle" ∧ (parseMethodDescriptor yL_exhibit.desc).map (fun d => d.parameters.length) = some 4 := by decide +kernel
theorem ms_L_exhibit : gStat yL_exhibit := g_t 971 (by decide +kernel) (by decide +kernel)
theorem mh_L_link : Cond.codeWith yL_link cL_link 6 (some .int) [((0 : Nat), (12 : Nat), (15 : Nat), (24 : Nat))] ∈ gWords := g_t 980 (by decide +kernel) (by decide +kernel)
theorem md_L_link : yL_link.cls ≠ "java/lang/invoke/MethodHandle" ∧ yL_link.cls ≠ "java/lang/invoke/VarHandle" ∧ (parseMethodDescriptor yL_link.desc).map (fun d => d.parameters.length) = some 5 := by decide +kernel
theorem ms_L_link : gStat yL_link := g_t 979 (by decide +kernel) (by decide +kernel)
theorem mh_L_send : Cond.codeWith yL_send cL_send 6 (some .int) [((0 : Nat), (12 : Nat), (15 : Nat), (24 : Nat)), ((0 : Nat), (12 : Nat), (19 : Nat), (19 : Nat)), ((0 : Nat), (12 : Nat), (23 : Nat), (13 : Nat))] ∈ gWords := g_t 988 (by decide +kernel) (by decide +kernel)
theorem md_L_send : yL_send.cls ≠ "java/lang/invoke/MethodHandle" ∧ yL_send.cls ≠ "java/lang/invoke/VarHandle" ∧ (parseMethodDescriptor yL_send.desc).map (fun d => d.parameters.length) = some 5 := by decide +kernel
theorem ms_L_send : gStat yL_send := g_t 987 (by decide +kernel) (by decide +kernel)
theorem mh_L_letter : Cond.codeWith yL_letter cL_letter 5 (some .int) [((0 : Nat), (10 : Nat), (13 : Nat), (24 : Nat))] ∈ gWords := g_t 1027 (by decide +kernel) (by decide +kernel)
theorem md_L_letter : yL_letter.cls ≠ "java/lang/invoke/MethodHandle" ∧ yL_letter.cls ≠ "java/lang/invoke/VarHandle" ∧ (parseMethodDescriptor yL_letter.desc).map (fun d => d.parameters.length) = some 4 := by decide +kernel
theorem ms_L_letter : gStat yL_letter := g_t 1026 (by decide +kernel) (by decide +kernel)
theorem mh_L_pass : Cond.codeWith yL_pass cL_pass 4 (some .int) [((0 : Nat), (9 : Nat), (12 : Nat), (19 : Nat))] ∈ gWords := g_t 1039 (by decide +kernel) (by decide +kernel)
theorem md_L_pass : yL_pass.cls ≠ "java/lang/invoke/MethodHandle" ∧ yL_pass.cls ≠ "java/lang/invoke/VarHandle" ∧ (parseMethodDescriptor yL_pass.desc).map (fun d => d.parameters.length) = some 3 := by decide +kernel
theorem ms_L_pass : gStat yL_pass := g_t 1038 (by decide +kernel) (by decide +kernel)
theorem mh_L_arrives : Cond.codeWith yL_arrives cL_arrives 4 (some .int) [((0 : Nat), (9 : Nat), (12 : Nat), (24 : Nat))] ∈ gWords := g_t 1072 (by decide +kernel) (by decide +kernel)
theorem md_L_arrives : yL_arrives.cls ≠ "java/lang/invoke/MethodHandle" ∧ yL_arrives.cls ≠ "java/lang/invoke/VarHandle" ∧ (parseMethodDescriptor yL_arrives.desc).map (fun d => d.parameters.length) = some 3 := by decide +kernel
theorem ms_L_arrives : gStat yL_arrives := g_t 1071 (by decide +kernel) (by decide +kernel)
theorem mh_L_count : Cond.codeWith yL_count cL_count 4 (some .int) [((0 : Nat), (9 : Nat), (12 : Nat), (24 : Nat))] ∈ gWords := g_t 1090 (by decide +kernel) (by decide +kernel)
theorem md_L_count : yL_count.cls ≠ "java/lang/invoke/MethodHandle" ∧ yL_count.cls ≠ "java/lang/invoke/VarHandle" ∧ (parseMethodDescriptor yL_count.desc).map (fun d => d.parameters.length) = some 3 := by decide +kernel
theorem ms_L_count : gStat yL_count := g_t 1089 (by decide +kernel) (by decide +kernel)
theorem mh_L_sees : Cond.codeWith yL_sees cL_sees 4 (some .int) [((0 : Nat), (9 : Nat), (12 : Nat), (24 : Nat))] ∈ gWords := g_t 1098 (by decide +kernel) (by decide +kernel)
theorem md_L_sees : yL_sees.cls ≠ "java/lang/invoke/MethodHandle" ∧ yL_sees.cls ≠ "java/lang/invoke/VarHandle" ∧ (parseMethodDescriptor yL_sees.desc).map (fun d => d.parameters.length) = some 3 := by decide +kernel
theorem ms_L_sees : gStat yL_sees := g_t 1097 (by decide +kernel) (by decide +kernel)
