section
-- ===== PART A: goes FIRST, ahead of the names: the tables' words, and 'selects' of the private methods out of them =====
/-- a private method of a class that the tables say can be made, by its rows of tables_1 -/
def lw_okq (q : MethodName × Nat) : Prop := (q.1.cls ≠ "java/lang/invoke/MethodHandle" ∧ q.1.cls ≠ "java/lang/invoke/VarHandle") ∧ Cond.instantiable q.1.cls q.2 ∈ tables_1 ∧ Cond.privateMethod q.1 ∈ tables_1 ∧ Cond.instanceMethod q.1 ∈ tables_1
theorem lw_p0 : lw_okq (⟨"CourtMail", "tellCount", "(I)I"⟩, 12) := ⟨⟨by decide +kernel, by decide +kernel⟩, List.mem_of_getElem? (i := 28) (by decide +kernel), List.mem_of_getElem? (i := 193) (by decide +kernel), List.mem_of_getElem? (i := 194) (by decide +kernel)⟩
theorem lw_p1 : lw_okq (⟨"CourtMail", "countLetters", "(I)I"⟩, 12) := ⟨⟨by decide +kernel, by decide +kernel⟩, List.mem_of_getElem? (i := 28) (by decide +kernel), List.mem_of_getElem? (i := 197) (by decide +kernel), List.mem_of_getElem? (i := 198) (by decide +kernel)⟩
theorem lw_p2 : lw_okq (⟨"CourtMail", "countLost", "()I"⟩, 12) := ⟨⟨by decide +kernel, by decide +kernel⟩, List.mem_of_getElem? (i := 28) (by decide +kernel), List.mem_of_getElem? (i := 202) (by decide +kernel), List.mem_of_getElem? (i := 203) (by decide +kernel)⟩
theorem lw_p3 : lw_okq (⟨"CourtMail", "countLent", "()I"⟩, 12) := ⟨⟨by decide +kernel, by decide +kernel⟩, List.mem_of_getElem? (i := 28) (by decide +kernel), List.mem_of_getElem? (i := 207) (by decide +kernel), List.mem_of_getElem? (i := 208) (by decide +kernel)⟩
theorem lw_p4 : lw_okq (⟨"CourtMail", "digestCases", "(J)J"⟩, 12) := ⟨⟨by decide +kernel, by decide +kernel⟩, List.mem_of_getElem? (i := 28) (by decide +kernel), List.mem_of_getElem? (i := 211) (by decide +kernel), List.mem_of_getElem? (i := 212) (by decide +kernel)⟩
theorem lw_p5 : lw_okq (⟨"CourtMail", "tellCase", "(LCourtMail$Case;I)I"⟩, 12) := ⟨⟨by decide +kernel, by decide +kernel⟩, List.mem_of_getElem? (i := 28) (by decide +kernel), List.mem_of_getElem? (i := 216) (by decide +kernel), List.mem_of_getElem? (i := 217) (by decide +kernel)⟩
theorem lw_p6 : lw_okq (⟨"CourtMail", "countDocumentsOf", "(LCourtMail$Case;)I"⟩, 12) := ⟨⟨by decide +kernel, by decide +kernel⟩, List.mem_of_getElem? (i := 28) (by decide +kernel), List.mem_of_getElem? (i := 220) (by decide +kernel), List.mem_of_getElem? (i := 221) (by decide +kernel)⟩
theorem lw_p7 : lw_okq (⟨"CourtMail", "exhibitsOf", "(LCourtMail$Case;)I"⟩, 12) := ⟨⟨by decide +kernel, by decide +kernel⟩, List.mem_of_getElem? (i := 28) (by decide +kernel), List.mem_of_getElem? (i := 224) (by decide +kernel), List.mem_of_getElem? (i := 225) (by decide +kernel)⟩
theorem lw_p8 : lw_okq (⟨"CourtMail", "countAdmitted", "(LCourtMail$Case;)I"⟩, 12) := ⟨⟨by decide +kernel, by decide +kernel⟩, List.mem_of_getElem? (i := 28) (by decide +kernel), List.mem_of_getElem? (i := 234) (by decide +kernel), List.mem_of_getElem? (i := 235) (by decide +kernel)⟩
theorem lw_p9 : lw_okq (⟨"CourtMail", "countWhoSeeInto", "(LCourtMail$Case;)I"⟩, 12) := ⟨⟨by decide +kernel, by decide +kernel⟩, List.mem_of_getElem? (i := 28) (by decide +kernel), List.mem_of_getElem? (i := 249) (by decide +kernel), List.mem_of_getElem? (i := 250) (by decide +kernel)⟩
theorem lw_p10 : lw_okq (⟨"CourtMail", "digestPeople", "(J)J"⟩, 12) := ⟨⟨by decide +kernel, by decide +kernel⟩, List.mem_of_getElem? (i := 28) (by decide +kernel), List.mem_of_getElem? (i := 269) (by decide +kernel), List.mem_of_getElem? (i := 270) (by decide +kernel)⟩
theorem lw_p11 : lw_okq (⟨"CourtMail", "tellPerson", "(LCourtMail$Person;I)I"⟩, 12) := ⟨⟨by decide +kernel, by decide +kernel⟩, List.mem_of_getElem? (i := 28) (by decide +kernel), List.mem_of_getElem? (i := 273) (by decide +kernel), List.mem_of_getElem? (i := 274) (by decide +kernel)⟩
theorem lw_p12 : lw_okq (⟨"CourtMail", "casesSeenBy", "(LCourtMail$Person;)I"⟩, 12) := ⟨⟨by decide +kernel, by decide +kernel⟩, List.mem_of_getElem? (i := 28) (by decide +kernel), List.mem_of_getElem? (i := 277) (by decide +kernel), List.mem_of_getElem? (i := 278) (by decide +kernel)⟩
theorem lw_p13 : lw_okq (⟨"CourtMail", "countOriginalsWith", "(LCourtMail$Person;)I"⟩, 12) := ⟨⟨by decide +kernel, by decide +kernel⟩, List.mem_of_getElem? (i := 28) (by decide +kernel), List.mem_of_getElem? (i := 281) (by decide +kernel), List.mem_of_getElem? (i := 282) (by decide +kernel)⟩
theorem lw_p14 : lw_okq (⟨"CourtMail", "countExhibitsWith", "(LCourtMail$Person;)I"⟩, 12) := ⟨⟨by decide +kernel, by decide +kernel⟩, List.mem_of_getElem? (i := 28) (by decide +kernel), List.mem_of_getElem? (i := 285) (by decide +kernel), List.mem_of_getElem? (i := 286) (by decide +kernel)⟩
theorem lw_p15 : lw_okq (⟨"CourtMail", "countDeliveredTo", "(LCourtMail$Person;)I"⟩, 12) := ⟨⟨by decide +kernel, by decide +kernel⟩, List.mem_of_getElem? (i := 28) (by decide +kernel), List.mem_of_getElem? (i := 289) (by decide +kernel), List.mem_of_getElem? (i := 290) (by decide +kernel)⟩
def lw_privs_1 : List (MethodName × Nat) := [(⟨"CourtMail", "tellCount", "(I)I"⟩, 12), (⟨"CourtMail", "countLetters", "(I)I"⟩, 12), (⟨"CourtMail", "countLost", "()I"⟩, 12), (⟨"CourtMail", "countLent", "()I"⟩, 12), (⟨"CourtMail", "digestCases", "(J)J"⟩, 12), (⟨"CourtMail", "tellCase", "(LCourtMail$Case;I)I"⟩, 12), (⟨"CourtMail", "countDocumentsOf", "(LCourtMail$Case;)I"⟩, 12), (⟨"CourtMail", "exhibitsOf", "(LCourtMail$Case;)I"⟩, 12), (⟨"CourtMail", "countAdmitted", "(LCourtMail$Case;)I"⟩, 12), (⟨"CourtMail", "countWhoSeeInto", "(LCourtMail$Case;)I"⟩, 12), (⟨"CourtMail", "digestPeople", "(J)J"⟩, 12), (⟨"CourtMail", "tellPerson", "(LCourtMail$Person;I)I"⟩, 12), (⟨"CourtMail", "casesSeenBy", "(LCourtMail$Person;)I"⟩, 12), (⟨"CourtMail", "countOriginalsWith", "(LCourtMail$Person;)I"⟩, 12), (⟨"CourtMail", "countExhibitsWith", "(LCourtMail$Person;)I"⟩, 12), (⟨"CourtMail", "countDeliveredTo", "(LCourtMail$Person;)I"⟩, 12)]
theorem lw_r1 : ∀ q ∈ lw_privs_1, lw_okq q := List.forall_mem_cons.mpr ⟨lw_p0, List.forall_mem_cons.mpr ⟨lw_p1, List.forall_mem_cons.mpr ⟨lw_p2, List.forall_mem_cons.mpr ⟨lw_p3, List.forall_mem_cons.mpr ⟨lw_p4, List.forall_mem_cons.mpr ⟨lw_p5, List.forall_mem_cons.mpr ⟨lw_p6, List.forall_mem_cons.mpr ⟨lw_p7, List.forall_mem_cons.mpr ⟨lw_p8, List.forall_mem_cons.mpr ⟨lw_p9, List.forall_mem_cons.mpr ⟨lw_p10, List.forall_mem_cons.mpr ⟨lw_p11, List.forall_mem_cons.mpr ⟨lw_p12, List.forall_mem_cons.mpr ⟨lw_p13, List.forall_mem_cons.mpr ⟨lw_p14, List.forall_mem_cons.mpr ⟨lw_p15, fun _ h => absurd h List.not_mem_nil⟩⟩⟩⟩⟩⟩⟩⟩⟩⟩⟩⟩⟩⟩⟩⟩
theorem lw_p16 : lw_okq (⟨"CourtMail", "digestDocuments", "(J)J"⟩, 12) := ⟨⟨by decide +kernel, by decide +kernel⟩, List.mem_of_getElem? (i := 28) (by decide +kernel), List.mem_of_getElem? (i := 293) (by decide +kernel), List.mem_of_getElem? (i := 294) (by decide +kernel)⟩
theorem lw_p17 : lw_okq (⟨"CourtMail", "digestExhibits", "(J)J"⟩, 12) := ⟨⟨by decide +kernel, by decide +kernel⟩, List.mem_of_getElem? (i := 28) (by decide +kernel), List.mem_of_getElem? (i := 314) (by decide +kernel), List.mem_of_getElem? (i := 315) (by decide +kernel)⟩
theorem lw_p18 : lw_okq (⟨"CourtMail", "tellExhibit", "(LCourtMail$Exhibit;I)I"⟩, 12) := ⟨⟨by decide +kernel, by decide +kernel⟩, List.mem_of_getElem? (i := 28) (by decide +kernel), List.mem_of_getElem? (i := 318) (by decide +kernel), List.mem_of_getElem? (i := 319) (by decide +kernel)⟩
theorem lw_p19 : lw_okq (⟨"CourtMail", "countDocumentsThatMark", "(LCourtMail$Exhibit;)I"⟩, 12) := ⟨⟨by decide +kernel, by decide +kernel⟩, List.mem_of_getElem? (i := 28) (by decide +kernel), List.mem_of_getElem? (i := 326) (by decide +kernel), List.mem_of_getElem? (i := 327) (by decide +kernel)⟩
theorem lw_p20 : lw_okq (⟨"CourtMail", "digestLetters", "(J)J"⟩, 12) := ⟨⟨by decide +kernel, by decide +kernel⟩, List.mem_of_getElem? (i := 28) (by decide +kernel), List.mem_of_getElem? (i := 334) (by decide +kernel), List.mem_of_getElem? (i := 335) (by decide +kernel)⟩
theorem lw_p21 : lw_okq (⟨"java/lang/Throwable", "fillInStackTrace", "(I)Ljava/lang/Throwable;"⟩, 6) := ⟨⟨by decide +kernel, by decide +kernel⟩, List.mem_of_getElem? (i := 387) (by decide +kernel), List.mem_of_getElem? (i := 385) (by decide +kernel), List.mem_of_getElem? (i := 386) (by decide +kernel)⟩
theorem lw_p22 : lw_okq (⟨"CourtMail", "append", "(I)V"⟩, 12) := ⟨⟨by decide +kernel, by decide +kernel⟩, List.mem_of_getElem? (i := 28) (by decide +kernel), List.mem_of_getElem? (i := 416) (by decide +kernel), List.mem_of_getElem? (i := 417) (by decide +kernel)⟩
theorem lw_p23 : lw_okq (⟨"CourtMail", "caseAt", "(I)LCourtMail$Case;"⟩, 12) := ⟨⟨by decide +kernel, by decide +kernel⟩, List.mem_of_getElem? (i := 28) (by decide +kernel), List.mem_of_getElem? (i := 452) (by decide +kernel), List.mem_of_getElem? (i := 453) (by decide +kernel)⟩
theorem lw_p24 : lw_okq (⟨"CourtMail$Draft", "start", "(I)V"⟩, 14) := ⟨⟨by decide +kernel, by decide +kernel⟩, List.mem_of_getElem? (i := 62) (by decide +kernel), List.mem_of_getElem? (i := 477) (by decide +kernel), List.mem_of_getElem? (i := 478) (by decide +kernel)⟩
theorem lw_p25 : lw_okq (⟨"CourtMail$Draft", "takeByte", "(II)Z"⟩, 14) := ⟨⟨by decide +kernel, by decide +kernel⟩, List.mem_of_getElem? (i := 62) (by decide +kernel), List.mem_of_getElem? (i := 481) (by decide +kernel), List.mem_of_getElem? (i := 482) (by decide +kernel)⟩
theorem lw_p26 : lw_okq (⟨"CourtMail$Draft", "takeLevel", "(I)Z"⟩, 14) := ⟨⟨by decide +kernel, by decide +kernel⟩, List.mem_of_getElem? (i := 62) (by decide +kernel), List.mem_of_getElem? (i := 485) (by decide +kernel), List.mem_of_getElem? (i := 486) (by decide +kernel)⟩
theorem lw_p27 : lw_okq (⟨"CourtMail$Draft", "takeColon", "(I)Z"⟩, 14) := ⟨⟨by decide +kernel, by decide +kernel⟩, List.mem_of_getElem? (i := 62) (by decide +kernel), List.mem_of_getElem? (i := 490) (by decide +kernel), List.mem_of_getElem? (i := 491) (by decide +kernel)⟩
theorem lw_p28 : lw_okq (⟨"CourtMail$Draft", "takeNameByte", "(I)Z"⟩, 14) := ⟨⟨by decide +kernel, by decide +kernel⟩, List.mem_of_getElem? (i := 62) (by decide +kernel), List.mem_of_getElem? (i := 494) (by decide +kernel), List.mem_of_getElem? (i := 495) (by decide +kernel)⟩
theorem lw_p29 : lw_okq (⟨"CourtMail$Draft", "put", "(II)V"⟩, 14) := ⟨⟨by decide +kernel, by decide +kernel⟩, List.mem_of_getElem? (i := 62) (by decide +kernel), List.mem_of_getElem? (i := 501) (by decide +kernel), List.mem_of_getElem? (i := 502) (by decide +kernel)⟩
theorem lw_p30 : lw_okq (⟨"CourtMail$Draft", "takeNumberByte", "(II)Z"⟩, 14) := ⟨⟨by decide +kernel, by decide +kernel⟩, List.mem_of_getElem? (i := 62) (by decide +kernel), List.mem_of_getElem? (i := 505) (by decide +kernel), List.mem_of_getElem? (i := 506) (by decide +kernel)⟩
theorem lw_p31 : lw_okq (⟨"CourtMail$Draft", "endNumber", "()V"⟩, 14) := ⟨⟨by decide +kernel, by decide +kernel⟩, List.mem_of_getElem? (i := 62) (by decide +kernel), List.mem_of_getElem? (i := 509) (by decide +kernel), List.mem_of_getElem? (i := 510) (by decide +kernel)⟩
def lw_privs_2 : List (MethodName × Nat) := [(⟨"CourtMail", "digestDocuments", "(J)J"⟩, 12), (⟨"CourtMail", "digestExhibits", "(J)J"⟩, 12), (⟨"CourtMail", "tellExhibit", "(LCourtMail$Exhibit;I)I"⟩, 12), (⟨"CourtMail", "countDocumentsThatMark", "(LCourtMail$Exhibit;)I"⟩, 12), (⟨"CourtMail", "digestLetters", "(J)J"⟩, 12), (⟨"java/lang/Throwable", "fillInStackTrace", "(I)Ljava/lang/Throwable;"⟩, 6), (⟨"CourtMail", "append", "(I)V"⟩, 12), (⟨"CourtMail", "caseAt", "(I)LCourtMail$Case;"⟩, 12), (⟨"CourtMail$Draft", "start", "(I)V"⟩, 14), (⟨"CourtMail$Draft", "takeByte", "(II)Z"⟩, 14), (⟨"CourtMail$Draft", "takeLevel", "(I)Z"⟩, 14), (⟨"CourtMail$Draft", "takeColon", "(I)Z"⟩, 14), (⟨"CourtMail$Draft", "takeNameByte", "(I)Z"⟩, 14), (⟨"CourtMail$Draft", "put", "(II)V"⟩, 14), (⟨"CourtMail$Draft", "takeNumberByte", "(II)Z"⟩, 14), (⟨"CourtMail$Draft", "endNumber", "()V"⟩, 14)]
theorem lw_r2 : ∀ q ∈ lw_privs_2, lw_okq q := List.forall_mem_cons.mpr ⟨lw_p16, List.forall_mem_cons.mpr ⟨lw_p17, List.forall_mem_cons.mpr ⟨lw_p18, List.forall_mem_cons.mpr ⟨lw_p19, List.forall_mem_cons.mpr ⟨lw_p20, List.forall_mem_cons.mpr ⟨lw_p21, List.forall_mem_cons.mpr ⟨lw_p22, List.forall_mem_cons.mpr ⟨lw_p23, List.forall_mem_cons.mpr ⟨lw_p24, List.forall_mem_cons.mpr ⟨lw_p25, List.forall_mem_cons.mpr ⟨lw_p26, List.forall_mem_cons.mpr ⟨lw_p27, List.forall_mem_cons.mpr ⟨lw_p28, List.forall_mem_cons.mpr ⟨lw_p29, List.forall_mem_cons.mpr ⟨lw_p30, List.forall_mem_cons.mpr ⟨lw_p31, fun _ h => absurd h List.not_mem_nil⟩⟩⟩⟩⟩⟩⟩⟩⟩⟩⟩⟩⟩⟩⟩⟩
theorem lw_p32 : lw_okq (⟨"CourtMail$Draft", "takeBodyByte", "(II)Z"⟩, 14) := ⟨⟨by decide +kernel, by decide +kernel⟩, List.mem_of_getElem? (i := 62) (by decide +kernel), List.mem_of_getElem? (i := 513) (by decide +kernel), List.mem_of_getElem? (i := 514) (by decide +kernel)⟩
theorem lw_p33 : lw_okq (⟨"CourtMail$Draft", "takePlain", "(I)Z"⟩, 14) := ⟨⟨by decide +kernel, by decide +kernel⟩, List.mem_of_getElem? (i := 62) (by decide +kernel), List.mem_of_getElem? (i := 517) (by decide +kernel), List.mem_of_getElem? (i := 518) (by decide +kernel)⟩
theorem lw_p34 : lw_okq (⟨"CourtMail$Draft", "isWhole", "()Z"⟩, 14) := ⟨⟨by decide +kernel, by decide +kernel⟩, List.mem_of_getElem? (i := 62) (by decide +kernel), List.mem_of_getElem? (i := 521) (by decide +kernel), List.mem_of_getElem? (i := 522) (by decide +kernel)⟩
theorem lw_p35 : lw_okq (⟨"java/util/ArrayList", "add", "(Ljava/lang/Object;[Ljava/lang/Object;I)V"⟩, 3) := ⟨⟨by decide +kernel, by decide +kernel⟩, List.mem_of_getElem? (i := 36) (by decide +kernel), List.mem_of_getElem? (i := 584) (by decide +kernel), List.mem_of_getElem? (i := 585) (by decide +kernel)⟩
theorem lw_p36 : lw_okq (⟨"java/util/ArrayList", "grow", "()[Ljava/lang/Object;"⟩, 3) := ⟨⟨by decide +kernel, by decide +kernel⟩, List.mem_of_getElem? (i := 36) (by decide +kernel), List.mem_of_getElem? (i := 588) (by decide +kernel), List.mem_of_getElem? (i := 589) (by decide +kernel)⟩
theorem lw_p37 : lw_okq (⟨"java/util/ArrayList", "grow", "(I)[Ljava/lang/Object;"⟩, 3) := ⟨⟨by decide +kernel, by decide +kernel⟩, List.mem_of_getElem? (i := 36) (by decide +kernel), List.mem_of_getElem? (i := 592) (by decide +kernel), List.mem_of_getElem? (i := 593) (by decide +kernel)⟩
theorem lw_p38 : lw_okq (⟨"CourtMail", "documentAt", "(I)LCourtMail$Document;"⟩, 12) := ⟨⟨by decide +kernel, by decide +kernel⟩, List.mem_of_getElem? (i := 28) (by decide +kernel), List.mem_of_getElem? (i := 640) (by decide +kernel), List.mem_of_getElem? (i := 641) (by decide +kernel)⟩
theorem lw_p39 : lw_okq (⟨"CourtMail", "personAt", "(I)LCourtMail$Person;"⟩, 12) := ⟨⟨by decide +kernel, by decide +kernel⟩, List.mem_of_getElem? (i := 28) (by decide +kernel), List.mem_of_getElem? (i := 742) (by decide +kernel), List.mem_of_getElem? (i := 743) (by decide +kernel)⟩
theorem lw_p40 : lw_okq (⟨"CourtMail", "writePaper", "(LCourtMail$Document;I)V"⟩, 12) := ⟨⟨by decide +kernel, by decide +kernel⟩, List.mem_of_getElem? (i := 28) (by decide +kernel), List.mem_of_getElem? (i := 777) (by decide +kernel), List.mem_of_getElem? (i := 778) (by decide +kernel)⟩
theorem lw_p41 : lw_okq (⟨"CourtMail", "isTapeSeen", "(LCourtMail$Document;II)Z"⟩, 12) := ⟨⟨by decide +kernel, by decide +kernel⟩, List.mem_of_getElem? (i := 28) (by decide +kernel), List.mem_of_getElem? (i := 827) (by decide +kernel), List.mem_of_getElem? (i := 828) (by decide +kernel)⟩
theorem lw_p42 : lw_okq (⟨"CourtMail", "exhibitAt", "(I)LCourtMail$Exhibit;"⟩, 12) := ⟨⟨by decide +kernel, by decide +kernel⟩, List.mem_of_getElem? (i := 28) (by decide +kernel), List.mem_of_getElem? (i := 907) (by decide +kernel), List.mem_of_getElem? (i := 908) (by decide +kernel)⟩
theorem lw_p43 : lw_okq (⟨"CourtMail", "letterAt", "(I)LCourtMail$Letter;"⟩, 12) := ⟨⟨by decide +kernel, by decide +kernel⟩, List.mem_of_getElem? (i := 28) (by decide +kernel), List.mem_of_getElem? (i := 1033) (by decide +kernel), List.mem_of_getElem? (i := 1034) (by decide +kernel)⟩
theorem lw_p44 : lw_okq (⟨"CourtMail", "carryOutLetters", "()I"⟩, 12) := ⟨⟨by decide +kernel, by decide +kernel⟩, List.mem_of_getElem? (i := 28) (by decide +kernel), List.mem_of_getElem? (i := 1046) (by decide +kernel), List.mem_of_getElem? (i := 1047) (by decide +kernel)⟩
theorem lw_p45 : lw_okq (⟨"CourtMail", "lettersOfADay", "()I"⟩, 12) := ⟨⟨by decide +kernel, by decide +kernel⟩, List.mem_of_getElem? (i := 28) (by decide +kernel), List.mem_of_getElem? (i := 1050) (by decide +kernel), List.mem_of_getElem? (i := 1051) (by decide +kernel)⟩
theorem lw_p46 : lw_okq (⟨"CourtMail", "nextLetter", "()LCourtMail$Letter;"⟩, 12) := ⟨⟨by decide +kernel, by decide +kernel⟩, List.mem_of_getElem? (i := 28) (by decide +kernel), List.mem_of_getElem? (i := 1054) (by decide +kernel), List.mem_of_getElem? (i := 1055) (by decide +kernel)⟩
theorem lw_p47 : lw_okq (⟨"CourtMail", "carryOut", "(LCourtMail$Letter;)V"⟩, 12) := ⟨⟨by decide +kernel, by decide +kernel⟩, List.mem_of_getElem? (i := 28) (by decide +kernel), List.mem_of_getElem? (i := 1058) (by decide +kernel), List.mem_of_getElem? (i := 1059) (by decide +kernel)⟩
def lw_privs_3 : List (MethodName × Nat) := [(⟨"CourtMail$Draft", "takeBodyByte", "(II)Z"⟩, 14), (⟨"CourtMail$Draft", "takePlain", "(I)Z"⟩, 14), (⟨"CourtMail$Draft", "isWhole", "()Z"⟩, 14), (⟨"java/util/ArrayList", "add", "(Ljava/lang/Object;[Ljava/lang/Object;I)V"⟩, 3), (⟨"java/util/ArrayList", "grow", "()[Ljava/lang/Object;"⟩, 3), (⟨"java/util/ArrayList", "grow", "(I)[Ljava/lang/Object;"⟩, 3), (⟨"CourtMail", "documentAt", "(I)LCourtMail$Document;"⟩, 12), (⟨"CourtMail", "personAt", "(I)LCourtMail$Person;"⟩, 12), (⟨"CourtMail", "writePaper", "(LCourtMail$Document;I)V"⟩, 12), (⟨"CourtMail", "isTapeSeen", "(LCourtMail$Document;II)Z"⟩, 12), (⟨"CourtMail", "exhibitAt", "(I)LCourtMail$Exhibit;"⟩, 12), (⟨"CourtMail", "letterAt", "(I)LCourtMail$Letter;"⟩, 12), (⟨"CourtMail", "carryOutLetters", "()I"⟩, 12), (⟨"CourtMail", "lettersOfADay", "()I"⟩, 12), (⟨"CourtMail", "nextLetter", "()LCourtMail$Letter;"⟩, 12), (⟨"CourtMail", "carryOut", "(LCourtMail$Letter;)V"⟩, 12)]
theorem lw_r3 : ∀ q ∈ lw_privs_3, lw_okq q := List.forall_mem_cons.mpr ⟨lw_p32, List.forall_mem_cons.mpr ⟨lw_p33, List.forall_mem_cons.mpr ⟨lw_p34, List.forall_mem_cons.mpr ⟨lw_p35, List.forall_mem_cons.mpr ⟨lw_p36, List.forall_mem_cons.mpr ⟨lw_p37, List.forall_mem_cons.mpr ⟨lw_p38, List.forall_mem_cons.mpr ⟨lw_p39, List.forall_mem_cons.mpr ⟨lw_p40, List.forall_mem_cons.mpr ⟨lw_p41, List.forall_mem_cons.mpr ⟨lw_p42, List.forall_mem_cons.mpr ⟨lw_p43, List.forall_mem_cons.mpr ⟨lw_p44, List.forall_mem_cons.mpr ⟨lw_p45, List.forall_mem_cons.mpr ⟨lw_p46, List.forall_mem_cons.mpr ⟨lw_p47, fun _ h => absurd h List.not_mem_nil⟩⟩⟩⟩⟩⟩⟩⟩⟩⟩⟩⟩⟩⟩⟩⟩
theorem lw_p48 : lw_okq (⟨"CourtMail", "callBackOriginals", "()V"⟩, 12) := ⟨⟨by decide +kernel, by decide +kernel⟩, List.mem_of_getElem? (i := 28) (by decide +kernel), List.mem_of_getElem? (i := 1062) (by decide +kernel), List.mem_of_getElem? (i := 1063) (by decide +kernel)⟩
theorem lw_p49 : lw_okq (⟨"CourtMail", "lettersAhead", "(ILCourtMail$Letter;)I"⟩, 12) := ⟨⟨by decide +kernel, by decide +kernel⟩, List.mem_of_getElem? (i := 28) (by decide +kernel), List.mem_of_getElem? (i := 1079) (by decide +kernel), List.mem_of_getElem? (i := 1080) (by decide +kernel)⟩
theorem lw_p50 : lw_okq (⟨"CourtMail", "clearanceBehind", "(LCourtMail$Person;I)I"⟩, 12) := ⟨⟨by decide +kernel, by decide +kernel⟩, List.mem_of_getElem? (i := 28) (by decide +kernel), List.mem_of_getElem? (i := 1083) (by decide +kernel), List.mem_of_getElem? (i := 1084) (by decide +kernel)⟩
theorem lw_p51 : lw_okq (⟨"CourtMail", "bytesSeenBy", "(LCourtMail$Person;LCourtMail$Case;)I"⟩, 12) := ⟨⟨by decide +kernel, by decide +kernel⟩, List.mem_of_getElem? (i := 28) (by decide +kernel), List.mem_of_getElem? (i := 1104) (by decide +kernel), List.mem_of_getElem? (i := 1105) (by decide +kernel)⟩
theorem lw_p52 : lw_okq (⟨"CourtMailModel", "no", "(I)I"⟩, 35) := ⟨⟨by decide +kernel, by decide +kernel⟩, List.mem_of_getElem? (i := 1108) (by decide +kernel), List.mem_of_getElem? (i := 1281) (by decide +kernel), List.mem_of_getElem? (i := 1282) (by decide +kernel)⟩
theorem lw_p53 : lw_okq (⟨"CourtMailModel", "isCase", "(I)Z"⟩, 35) := ⟨⟨by decide +kernel, by decide +kernel⟩, List.mem_of_getElem? (i := 1108) (by decide +kernel), List.mem_of_getElem? (i := 1296) (by decide +kernel), List.mem_of_getElem? (i := 1297) (by decide +kernel)⟩
theorem lw_p54 : lw_okq (⟨"CourtMailModel", "parse", "(I)I"⟩, 35) := ⟨⟨by decide +kernel, by decide +kernel⟩, List.mem_of_getElem? (i := 1108) (by decide +kernel), List.mem_of_getElem? (i := 1300) (by decide +kernel), List.mem_of_getElem? (i := 1301) (by decide +kernel)⟩
theorem lw_p55 : lw_okq (⟨"CourtMailModel", "at", "(I)I"⟩, 35) := ⟨⟨by decide +kernel, by decide +kernel⟩, List.mem_of_getElem? (i := 1108) (by decide +kernel), List.mem_of_getElem? (i := 1304) (by decide +kernel), List.mem_of_getElem? (i := 1305) (by decide +kernel)⟩
theorem lw_p56 : lw_okq (⟨"CourtMailModel", "write", "(III)V"⟩, 35) := ⟨⟨by decide +kernel, by decide +kernel⟩, List.mem_of_getElem? (i := 1108) (by decide +kernel), List.mem_of_getElem? (i := 1312) (by decide +kernel), List.mem_of_getElem? (i := 1313) (by decide +kernel)⟩
theorem lw_p57 : lw_okq (⟨"CourtMailModel", "writeExhibit", "(II)V"⟩, 35) := ⟨⟨by decide +kernel, by decide +kernel⟩, List.mem_of_getElem? (i := 1108) (by decide +kernel), List.mem_of_getElem? (i := 1316) (by decide +kernel), List.mem_of_getElem? (i := 1317) (by decide +kernel)⟩
theorem lw_p58 : lw_okq (⟨"CourtMailModel", "isDocument", "(I)Z"⟩, 35) := ⟨⟨by decide +kernel, by decide +kernel⟩, List.mem_of_getElem? (i := 1108) (by decide +kernel), List.mem_of_getElem? (i := 1336) (by decide +kernel), List.mem_of_getElem? (i := 1337) (by decide +kernel)⟩
theorem lw_p59 : lw_okq (⟨"CourtMailModel", "documentTold", "(II)I"⟩, 35) := ⟨⟨by decide +kernel, by decide +kernel⟩, List.mem_of_getElem? (i := 1108) (by decide +kernel), List.mem_of_getElem? (i := 1344) (by decide +kernel), List.mem_of_getElem? (i := 1345) (by decide +kernel)⟩
theorem lw_p60 : lw_okq (⟨"CourtMailModel", "isPerson", "(I)Z"⟩, 35) := ⟨⟨by decide +kernel, by decide +kernel⟩, List.mem_of_getElem? (i := 1108) (by decide +kernel), List.mem_of_getElem? (i := 1364) (by decide +kernel), List.mem_of_getElem? (i := 1365) (by decide +kernel)⟩
theorem lw_p61 : lw_okq (⟨"CourtMailModel", "personTold", "(II)I"⟩, 35) := ⟨⟨by decide +kernel, by decide +kernel⟩, List.mem_of_getElem? (i := 1108) (by decide +kernel), List.mem_of_getElem? (i := 1372) (by decide +kernel), List.mem_of_getElem? (i := 1373) (by decide +kernel)⟩
theorem lw_p62 : lw_okq (⟨"CourtMailModel", "caseTold", "(II)I"⟩, 35) := ⟨⟨by decide +kernel, by decide +kernel⟩, List.mem_of_getElem? (i := 1108) (by decide +kernel), List.mem_of_getElem? (i := 1389) (by decide +kernel), List.mem_of_getElem? (i := 1390) (by decide +kernel)⟩
theorem lw_p63 : lw_okq (⟨"CourtMailModel", "isGood", "(I)Z"⟩, 35) := ⟨⟨by decide +kernel, by decide +kernel⟩, List.mem_of_getElem? (i := 1108) (by decide +kernel), List.mem_of_getElem? (i := 1393) (by decide +kernel), List.mem_of_getElem? (i := 1394) (by decide +kernel)⟩
def lw_privs_4 : List (MethodName × Nat) := [(⟨"CourtMail", "callBackOriginals", "()V"⟩, 12), (⟨"CourtMail", "lettersAhead", "(ILCourtMail$Letter;)I"⟩, 12), (⟨"CourtMail", "clearanceBehind", "(LCourtMail$Person;I)I"⟩, 12), (⟨"CourtMail", "bytesSeenBy", "(LCourtMail$Person;LCourtMail$Case;)I"⟩, 12), (⟨"CourtMailModel", "no", "(I)I"⟩, 35), (⟨"CourtMailModel", "isCase", "(I)Z"⟩, 35), (⟨"CourtMailModel", "parse", "(I)I"⟩, 35), (⟨"CourtMailModel", "at", "(I)I"⟩, 35), (⟨"CourtMailModel", "write", "(III)V"⟩, 35), (⟨"CourtMailModel", "writeExhibit", "(II)V"⟩, 35), (⟨"CourtMailModel", "isDocument", "(I)Z"⟩, 35), (⟨"CourtMailModel", "documentTold", "(II)I"⟩, 35), (⟨"CourtMailModel", "isPerson", "(I)Z"⟩, 35), (⟨"CourtMailModel", "personTold", "(II)I"⟩, 35), (⟨"CourtMailModel", "caseTold", "(II)I"⟩, 35), (⟨"CourtMailModel", "isGood", "(I)Z"⟩, 35)]
theorem lw_r4 : ∀ q ∈ lw_privs_4, lw_okq q := List.forall_mem_cons.mpr ⟨lw_p48, List.forall_mem_cons.mpr ⟨lw_p49, List.forall_mem_cons.mpr ⟨lw_p50, List.forall_mem_cons.mpr ⟨lw_p51, List.forall_mem_cons.mpr ⟨lw_p52, List.forall_mem_cons.mpr ⟨lw_p53, List.forall_mem_cons.mpr ⟨lw_p54, List.forall_mem_cons.mpr ⟨lw_p55, List.forall_mem_cons.mpr ⟨lw_p56, List.forall_mem_cons.mpr ⟨lw_p57, List.forall_mem_cons.mpr ⟨lw_p58, List.forall_mem_cons.mpr ⟨lw_p59, List.forall_mem_cons.mpr ⟨lw_p60, List.forall_mem_cons.mpr ⟨lw_p61, List.forall_mem_cons.mpr ⟨lw_p62, List.forall_mem_cons.mpr ⟨lw_p63, fun _ h => absurd h List.not_mem_nil⟩⟩⟩⟩⟩⟩⟩⟩⟩⟩⟩⟩⟩⟩⟩⟩
theorem lw_p64 : lw_okq (⟨"CourtMailModel", "gaps", "(I)I"⟩, 35) := ⟨⟨by decide +kernel, by decide +kernel⟩, List.mem_of_getElem? (i := 1108) (by decide +kernel), List.mem_of_getElem? (i := 1397) (by decide +kernel), List.mem_of_getElem? (i := 1398) (by decide +kernel)⟩
theorem lw_p65 : lw_okq (⟨"CourtMailModel", "linkTold", "(III)I"⟩, 35) := ⟨⟨by decide +kernel, by decide +kernel⟩, List.mem_of_getElem? (i := 1108) (by decide +kernel), List.mem_of_getElem? (i := 1401) (by decide +kernel), List.mem_of_getElem? (i := 1402) (by decide +kernel)⟩
theorem lw_p66 : lw_okq (⟨"CourtMailModel", "isPair", "(II)Z"⟩, 35) := ⟨⟨by decide +kernel, by decide +kernel⟩, List.mem_of_getElem? (i := 1108) (by decide +kernel), List.mem_of_getElem? (i := 1409) (by decide +kernel), List.mem_of_getElem? (i := 1410) (by decide +kernel)⟩
theorem lw_p67 : lw_okq (⟨"CourtMailModel", "seenBy", "(III)I"⟩, 35) := ⟨⟨by decide +kernel, by decide +kernel⟩, List.mem_of_getElem? (i := 1108) (by decide +kernel), List.mem_of_getElem? (i := 1413) (by decide +kernel), List.mem_of_getElem? (i := 1414) (by decide +kernel)⟩
theorem lw_p68 : lw_okq (⟨"CourtMailModel", "seen", "(III)I"⟩, 35) := ⟨⟨by decide +kernel, by decide +kernel⟩, List.mem_of_getElem? (i := 1108) (by decide +kernel), List.mem_of_getElem? (i := 1418) (by decide +kernel), List.mem_of_getElem? (i := 1419) (by decide +kernel)⟩
theorem lw_p69 : lw_okq (⟨"CourtMailModel", "hiddenOf", "(II)I"⟩, 35) := ⟨⟨by decide +kernel, by decide +kernel⟩, List.mem_of_getElem? (i := 1108) (by decide +kernel), List.mem_of_getElem? (i := 1430) (by decide +kernel), List.mem_of_getElem? (i := 1431) (by decide +kernel)⟩
theorem lw_p70 : lw_okq (⟨"CourtMailModel", "isExhibit", "(I)Z"⟩, 35) := ⟨⟨by decide +kernel, by decide +kernel⟩, List.mem_of_getElem? (i := 1108) (by decide +kernel), List.mem_of_getElem? (i := 1462) (by decide +kernel), List.mem_of_getElem? (i := 1463) (by decide +kernel)⟩
theorem lw_p71 : lw_okq (⟨"CourtMailModel", "add", "(IIII)I"⟩, 35) := ⟨⟨by decide +kernel, by decide +kernel⟩, List.mem_of_getElem? (i := 1108) (by decide +kernel), List.mem_of_getElem? (i := 1466) (by decide +kernel), List.mem_of_getElem? (i := 1467) (by decide +kernel)⟩
theorem lw_p72 : lw_okq (⟨"CourtMailModel", "exhibitTold", "(II)I"⟩, 35) := ⟨⟨by decide +kernel, by decide +kernel⟩, List.mem_of_getElem? (i := 1108) (by decide +kernel), List.mem_of_getElem? (i := 1487) (by decide +kernel), List.mem_of_getElem? (i := 1488) (by decide +kernel)⟩
theorem lw_p73 : lw_okq (⟨"CourtMailModel", "letterTold", "(II)I"⟩, 35) := ⟨⟨by decide +kernel, by decide +kernel⟩, List.mem_of_getElem? (i := 1108) (by decide +kernel), List.mem_of_getElem? (i := 1503) (by decide +kernel), List.mem_of_getElem? (i := 1504) (by decide +kernel)⟩
theorem lw_p74 : lw_okq (⟨"CourtMailModel", "clerks", "()I"⟩, 35) := ⟨⟨by decide +kernel, by decide +kernel⟩, List.mem_of_getElem? (i := 1108) (by decide +kernel), List.mem_of_getElem? (i := 1515) (by decide +kernel), List.mem_of_getElem? (i := 1516) (by decide +kernel)⟩
theorem lw_p75 : lw_okq (⟨"CourtMailModel$State", "next", "()I"⟩, 9) := ⟨⟨by decide +kernel, by decide +kernel⟩, List.mem_of_getElem? (i := 1116) (by decide +kernel), List.mem_of_getElem? (i := 1519) (by decide +kernel), List.mem_of_getElem? (i := 1520) (by decide +kernel)⟩
theorem lw_p76 : lw_okq (⟨"CourtMailModel$State", "copy", "([I[I)V"⟩, 9) := ⟨⟨by decide +kernel, by decide +kernel⟩, List.mem_of_getElem? (i := 1116) (by decide +kernel), List.mem_of_getElem? (i := 1533) (by decide +kernel), List.mem_of_getElem? (i := 1534) (by decide +kernel)⟩
theorem lw_p77 : lw_okq (⟨"CourtMailModel", "counted", "(I)I"⟩, 35) := ⟨⟨by decide +kernel, by decide +kernel⟩, List.mem_of_getElem? (i := 1108) (by decide +kernel), List.mem_of_getElem? (i := 1542) (by decide +kernel), List.mem_of_getElem? (i := 1543) (by decide +kernel)⟩
def lw_privs_5 : List (MethodName × Nat) := [(⟨"CourtMailModel", "gaps", "(I)I"⟩, 35), (⟨"CourtMailModel", "linkTold", "(III)I"⟩, 35), (⟨"CourtMailModel", "isPair", "(II)Z"⟩, 35), (⟨"CourtMailModel", "seenBy", "(III)I"⟩, 35), (⟨"CourtMailModel", "seen", "(III)I"⟩, 35), (⟨"CourtMailModel", "hiddenOf", "(II)I"⟩, 35), (⟨"CourtMailModel", "isExhibit", "(I)Z"⟩, 35), (⟨"CourtMailModel", "add", "(IIII)I"⟩, 35), (⟨"CourtMailModel", "exhibitTold", "(II)I"⟩, 35), (⟨"CourtMailModel", "letterTold", "(II)I"⟩, 35), (⟨"CourtMailModel", "clerks", "()I"⟩, 35), (⟨"CourtMailModel$State", "next", "()I"⟩, 9), (⟨"CourtMailModel$State", "copy", "([I[I)V"⟩, 9), (⟨"CourtMailModel", "counted", "(I)I"⟩, 35)]
theorem lw_r5 : ∀ q ∈ lw_privs_5, lw_okq q := List.forall_mem_cons.mpr ⟨lw_p64, List.forall_mem_cons.mpr ⟨lw_p65, List.forall_mem_cons.mpr ⟨lw_p66, List.forall_mem_cons.mpr ⟨lw_p67, List.forall_mem_cons.mpr ⟨lw_p68, List.forall_mem_cons.mpr ⟨lw_p69, List.forall_mem_cons.mpr ⟨lw_p70, List.forall_mem_cons.mpr ⟨lw_p71, List.forall_mem_cons.mpr ⟨lw_p72, List.forall_mem_cons.mpr ⟨lw_p73, List.forall_mem_cons.mpr ⟨lw_p74, List.forall_mem_cons.mpr ⟨lw_p75, List.forall_mem_cons.mpr ⟨lw_p76, List.forall_mem_cons.mpr ⟨lw_p77, fun _ h => absurd h List.not_mem_nil⟩⟩⟩⟩⟩⟩⟩⟩⟩⟩⟩⟩⟩⟩
def lw_privs : List (MethodName × Nat) := lw_privs_1 ++ (lw_privs_2 ++ (lw_privs_3 ++ (lw_privs_4 ++ (lw_privs_5))))
def lw_tbl : List Cond := k2_sels lw_privs ++ tables_1
theorem lw_privs_ok : ∀ q ∈ lw_privs, lw_okq q := by
  show ∀ q ∈ lw_privs_1 ++ (lw_privs_2 ++ (lw_privs_3 ++ (lw_privs_4 ++ (lw_privs_5)))), lw_okq q
  exact List.forall_mem_append.mpr ⟨lw_r1, List.forall_mem_append.mpr ⟨lw_r2, List.forall_mem_append.mpr ⟨lw_r3, List.forall_mem_append.mpr ⟨lw_r4, lw_r5⟩⟩⟩⟩
/-- the streams that the claim lets the run draw from -/
abbrev lw_cs : List Choice := [Jvm.Choice.named "NaN.bits"]
theorem lw_bits : nanBits ∈ lw_cs := by first | decide | exact List.mem_cons_self | simp [lw_cs, nanBits]
-- ===== end of PART A; then your names; then what follows =====
end
section
/-! ===== BEGIN words of one list among another's, by their places ===== -/
theorem goodIn_r {big : List Cond} (ws : List Cond) (ps : List Nat) (hp : ws = ps.filterMap (fun i => big[i]?)) (h : ws.all goodWord = true) : GoodIn big ws := by
  intro w hw
  have h1 := List.all_eq_true.mp h w hw
  rw [hp] at hw
  obtain ⟨i, -, hi⟩ := List.mem_filterMap.mp hw
  have hm : w ∈ big := by first | exact List.mem_of_getElem? hi | exact List.getElem?_mem hi
  exact ⟨hm, good_of_word h1⟩
theorem goodIn_app {big a b : List Cond} (ha : GoodIn big a) (hb : GoodIn big b) : GoodIn big (a ++ b) := fun w h => (List.mem_append.mp h).elim (ha w) (hb w)
theorem goodIn_ca {big a b : List Cond} {c : Cond} (ha : GoodIn big (c :: a)) (hb : GoodIn big b) : GoodIn big (c :: (a ++ b)) := fun w h => (List.mem_cons.mp h).elim (fun e => ha w (List.mem_cons.mpr (Or.inl e))) (fun h => (List.mem_append.mp h).elim (fun h => ha w (List.mem_cons.mpr (Or.inr h))) (hb w))
theorem goodIn_sub {big ws : List Cond} (hm : ∀ w ∈ ws, w ∈ big) (h : ws.all goodWord = true) : GoodIn big ws := fun w hw => ⟨hm w hw, good_of_word (List.all_eq_true.mp h w hw)⟩
/-! ===== END ===== -/

/-! ===== BEGIN exceptions that leave a method, and their catching by the caller (launches without stack traces) ===== -/
section VXA
/-! The laws vx_back, vx_callV, vx_callS, vx_callSW, vx_throw0, vx_throwS follow proofs of the library, with one case more: JvmDerived/Free/Laws.lean (Back.of_free), Shelf42/LK1.lean (callV, callS), Shelf/KitTraced.lean (throwNew0V, throwNewS). -/
/-- where a method has thrown q: the class by its name, the cell, what was written, the world -/
def vx_T (XC : String → State → State → Prop) (st : State) (q : Addr) (t : State) (mc ms : Nat) (free : Addr → Prop) : Prop :=
  ∃ (E : String) (ce : Cell) (L : List Loc), XC E st t ∧ t.heap[q]? = some ce ∧ ce.vm = .none ∧ st.vm.findClass E = some ce.cls ∧ st.WarmedH t.vm ∧ st.sameButNew ({ t with vm := st.vm } : State) L mc ms ∧ ∀ z ∈ L, free z.base
def vx_Q (Qc : Array Value → State → Outcome → State → Prop) (XC : String → State → State → Prop) (mc ms : Nat) (free : Addr → Prop) : Array Value → State → Outcome → State → Prop := fun a st o t =>
  (Qc a st o t ∧ ∃ L, FrameEnd st o t L mc ms ∧ ∀ q ∈ L, free q.base) ∨ ∃ q, o = .threw q ∧ vx_T XC st q t mc ms free
/-- a callee that returns or throws -/
def vx_Met (l : Launch) (y : MethodName) (ws : List Cond) (rm : Room) (Pc : Array Value → State → Prop) (Qc : Array Value → State → Outcome → State → Prop) (XC : String → State → State → Prop) (mc ms : Nat) (free : Addr → Prop) : Prop :=
  MetFree l y (headSpec ws rm) Pc (fun _ _ _ _ _ => True) (vx_Q Qc XC mc ms free)
def vx_Post (XC : String → State → State → Prop) (mc ms : Nat) (free : Addr → Prop) : Pt → Array Value → Addr → Pt → Prop := fun A a q B =>
  ∃ (g : JFrame) (mk : MethodId) (t : State) (L : List Loc) (E : String) (ce : Cell), B.U.heap = t.heap ∧ B.U.vm = t.vm ∧ XC E (A.U.calling g mk a) t ∧ t.heap[q]? = some ce ∧ ce.vm = .none ∧ A.U.vm.findClass E = some ce.cls ∧ B.locs = A.locs ++ L ∧ (∀ z ∈ L, free z.base) ∧ B.cells = A.cells + mc ∧ B.slots = A.slots + ms
def vx_Back (l : Launch) (R : Room) (p : Program) (e : Env) (below : List Frame) (s : State) (sargs : Array Value) (y : MethodName) (len W9 : Nat)
    (Pre : Pt → Array Value → Prop) (Post : Pt → Array Value → Option Value → Pt → Prop) (PostX : Pt → Array Value → Addr → Pt → Prop) : Prop :=
  ∀ (m : MethodId) (meth : Method) (c : Code) (A : Pt) (g : JFrame) (ig : Instr) (mk : MethodId) (a : Array Value),
    Stand p l e R s m sargs below meth c A.U A.locs A.cells A.slots → g.method = m → g.locals.size = c.maxLocals → decode c.code g.pc = .ok (ig, len) →
    2 * g.monitorRoom + (g.stack.map fun v => v.category).sum ≤ W9 → A.U.methodNamed? y = some mk → Pre A a →
    (∃ (v : Option Value) (B : Pt), Stand p l e R s m sargs below meth c B.U B.locs B.cells B.slots ∧ Post A a v B ∧
      Steps p.tables e below (doInvoke e (A.U.setTop g) [] mk a).1 (B.U.setTop { g with pc := g.pc + len, stack := v.toList ++ g.stack })) ∨
    (∃ (q : Addr) (B : Pt), Stand p l e R s m sargs below meth c B.U B.locs B.cells B.slots ∧ PostX A a q B ∧
      Steps p.tables e below (doInvoke e (A.U.setTop g) [] mk a).1 ((B.U.setTop g).pushFrame (.throwing q)))
section Payer
variable {l : Launch} {R : Room} {p : Program} {e : Env} {below : List Frame} {s : State} {sargs : Array Value} {y : MethodName} {len W9 : Nat}
theorem vx_back {ws : List Cond} {rm : Room} {Pc : Array Value → State → Prop} {Qc : Array Value → State → Outcome → State → Prop} {XC : String → State → State → Prop} {mc ms : Nat} {free : Addr → Prop} {bytes : ByteArray} {maxL : Nat} {ret : Option FieldType}
    (hM : vx_Met l y ws rm Pc Qc XC mc ms free) (hblind : FrameBlind Pc) (hrc : rm.cells = mc) (hrs : rm.slots = ms)
    (hframes : rm.frames + 1 ≤ R.frames) (hlocals : W9 + (maxL + 11) + rm.locals ≤ R.locals)
    (hws : ∀ w ∈ ws, ∀ a' U, s.WarmedH U.vm → w.before a' U = true) (hcode : Cond.code y bytes maxL ret ∈ ws) (hinit : ∀ a' U, s.WarmedH U.vm → (Cond.initialized y.cls).before a' U = true) :
    vx_Back l R p e below s sargs y len W9 (PreOf R mc ms Pc) (PostOf Qc mc ms free) (vx_Post XC mc ms free) := by
  intro m meth c A g ig mk a X hg hsize hdg hW hn hp
  have h1 : (headSpec ws rm).pre.before a A.U = true := atoms_intro fun w hw => hws w hw _ _ X.warmed
  have h2 : (Cond.code y bytes maxL ret).before a A.U = true := hws _ hcode _ _ X.warmed
  have h3 : (Cond.initialized y.cls).before a A.U = true := hinit _ _ X.warmed
  have h4 : A.cells + (headSpec ws rm).room.cells ≤ R.cells := by rw [show (headSpec ws rm).room.cells = mc from hrc]; exact hp.1
  have h5 : A.slots + (headSpec ws rm).room.slots ≤ R.slots := by rw [show (headSpec ws rm).room.slots = ms from hrs]; exact hp.2.1
  have hPc : Pc a (A.U.calling g mk a) := hblind _ _ _ _ hp.2.2
  obtain ⟨U, Ls, c0, s0⟩ := A
  dsimp only [Pt.U, Pt.locs, Pt.cells, Pt.slots] at h1 h2 h3 h4 h5 X hn hPc ⊢
  obtain ⟨methY, cY, hmY, hcY, -, hlY, -, -, -, -⟩ := Cond.code_spec hn h2
  obtain ⟨kY, hkY, -⟩ := className_of_methodNamed hn
  have hinitY : kY.init = .initialized := Cond.initialized_spec (findClass_of_methodNamed hn) hkY h3
  have h : At U g.method c below := by rw [hg]; exact X.here
  have hlocals9 : W9 + (maxL + 11) + (headSpec ws rm).room.locals ≤ R.locals := hlocals
  have happ : (headSpec ws rm).appliesLoose y e.platform (U.calling g mk a) = true :=
    Spec.appliesLoose_calling (g := g) h hdg hn hkY hinitY
      (X.room_calling (g := g) (R' := (headSpec ws rm).room) hsize hmY hcY hframes (by rw [hlY]; omega) h4 h5) h1
  obtain ⟨mid, hmid⟩ := h.above
  have hfr : (U.setTop g).frames = (.java g :: mid) ++ below := by rw [State.frames_setTop' g h.top, hmid]; rfl
  obtain ⟨o, s₂, hsteps, -, hend, hq⟩ := Steps.callFree hM p X.admits X.cas X.clock (acts := []) hfr happ hPc trivial
  have hq' : vx_Q Qc XC mc ms free a (U.calling g mk a) o s₂ := hq
  rw [State.frames_setTop' g h.top] at hend
  obtain ⟨g₀, hg0⟩ := Option.isSome_iff_exists.mp h.top
  obtain ⟨r, hr⟩ := State.topJava?_eq_some.mp hg0
  have hr' : (({ U with heap := s₂.heap, slotsUsed := s₂.slotsUsed } : State).setVm s₂.vm).frames = .java g₀ :: r := hr
  rcases hq' with ⟨hqc, L, hfe, hL⟩ | ⟨q, rfl, E, ce, L, hx, hce, hcv, hcl, hW₂, hsm, hL⟩
  · obtain ⟨⟨v, rfl⟩, hW₂, e2, q2, q3, q4, q5, q6⟩ := id hfe
    have e3 : s₂ = ({ (U.calling g mk a).setFrames s₂.frames with heap := s₂.heap, slotsUsed := s₂.slotsUsed } : State).setVm s₂.vm := by
      have : s₂ = ({ s₂ with vm := (U.calling g mk a).vm } : State).setVm s₂.vm := rfl
      rw [e2] at this
      exact this
    obtain ⟨c₂, i₂, len₂, hc₂, hd₂, hf₂⟩ := hend
    have hW' : U.WarmedH s₂.vm := hW₂
    have hcc : c₂ = c := by
      have h1 : s₂.code? g.method = U.code? g.method := by
        rw [State.code?_eq, State.code?_eq, hW'.alike.method?]
      exact Option.some.inj (hc₂.symm.trans (h1.trans h.code))
    subst hcc
    have hlen : len₂ = len := by rw [hdg] at hd₂; cases hd₂; rfl
    subst hlen
    have hs₂ : s₂ = (({ U with heap := s₂.heap, slotsUsed := s₂.slotsUsed } : State).setVm s₂.vm).setTop { g with pc := g.pc + len₂, stack := v.toList ++ g.stack } := by
      refine e3.trans ?_
      rw [hf₂, State.calling_eq h.top, State.setFrames_setFrames, State.setTop_of_frames _ hr', hr]
      rfl
    have hsame : U.sameButNew ({ U with heap := s₂.heap, slotsUsed := s₂.slotsUsed } : State) L mc ms := by
      refine ⟨?_, q2, q3, q4, q5, q6⟩
      obtain ⟨t, ht, -⟩ := State.frames_cons hr
      show ({ U with heap := s₂.heap, slotsUsed := s₂.slotsUsed } : State) = { U.setFrames U.frames with heap := s₂.heap, slotsUsed := s₂.slotsUsed }
      rw [State.setFrames_self ht]
    subst hg
    refine Or.inl ⟨v, ⟨(({ U with heap := s₂.heap, slotsUsed := s₂.slotsUsed } : State).setVm s₂.vm), Ls ++ L, c0 + mc, s0 + ms⟩,
      ⟨X.admits, X.cas, X.clock, X.frames, X.room, X.hears, X.method, X.code, (X.here.setHeapUsed s₂.heap s₂.slotsUsed).setVm hW'.alike, X.tail, State.WarmedH.trans X.warmed hW', X.limits, X.bytes, X.same.trans (hsame.setVm s.vm)⟩,
      ⟨g, mk, s₂, L, rfl, rfl, hqc, rfl, hL, rfl, rfl⟩, ?_⟩
    show Steps p.tables e below _ ((({ U with heap := s₂.heap, slotsUsed := s₂.slotsUsed } : State).setVm s₂.vm).setTop { g with pc := g.pc + len₂, stack := v.toList ++ g.stack })
    rw [← hs₂]
    exact hsteps
  · obtain ⟨e2, q2, q3, q4, q5, q6⟩ := id hsm
    have e3 : s₂ = ({ (U.calling g mk a).setFrames s₂.frames with heap := s₂.heap, slotsUsed := s₂.slotsUsed } : State).setVm s₂.vm := by
      have : s₂ = ({ s₂ with vm := (U.calling g mk a).vm } : State).setVm s₂.vm := rfl
      rw [e2] at this
      exact this
    have hf₂ : s₂.frames = .throwing q :: .java g :: U.frames.tail := hend
    have hW' : U.WarmedH s₂.vm := hW₂
    have hs₂ : s₂ = ((({ U with heap := s₂.heap, slotsUsed := s₂.slotsUsed } : State).setVm s₂.vm).setTop g).pushFrame (.throwing q) := by
      refine e3.trans ?_
      rw [hf₂, State.calling_eq h.top, State.setFrames_setFrames, State.pushFrame, State.frames_setTop _ hr', State.setTop_of_frames _ hr', State.setFrames_setFrames, hr]
      rfl
    have hsame : U.sameButNew ({ U with heap := s₂.heap, slotsUsed := s₂.slotsUsed } : State) L mc ms := by
      refine ⟨?_, q2, q3, q4, q5, q6⟩
      obtain ⟨t, ht, -⟩ := State.frames_cons hr
      show ({ U with heap := s₂.heap, slotsUsed := s₂.slotsUsed } : State) = { U.setFrames U.frames with heap := s₂.heap, slotsUsed := s₂.slotsUsed }
      rw [State.setFrames_self ht]
    subst hg
    refine Or.inr ⟨q, ⟨(({ U with heap := s₂.heap, slotsUsed := s₂.slotsUsed } : State).setVm s₂.vm), Ls ++ L, c0 + mc, s0 + ms⟩,
      ⟨X.admits, X.cas, X.clock, X.frames, X.room, X.hears, X.method, X.code, (X.here.setHeapUsed s₂.heap s₂.slotsUsed).setVm hW'.alike, X.tail, State.WarmedH.trans X.warmed hW', X.limits, X.bytes, X.same.trans (hsame.setVm s.vm)⟩,
      ⟨g, mk, s₂, L, E, ce, rfl, rfl, hx, hce, hcv, hcl, rfl, hL, rfl, rfl⟩, ?_⟩
    show Steps p.tables e below _ (((({ U with heap := s₂.heap, slotsUsed := s₂.slotsUsed } : State).setVm s₂.vm).setTop g).pushFrame (.throwing q))
    rw [← hs₂]
    exact hsteps
end Payer
section Calls
variable {p : Program} {l : Launch} {e : Env} {R : Room} {s : State} {m : MethodId} {args : Array Value} {below : List Frame} {meth : Method} {c : Code} {T : State} {locs : List Loc} {cells slots : Nat}
theorem vx_callV (X : Stand p l e R s m args below meth c T locs cells slots) (hexec : p.tables.exec = Jvm.exec) {own C : String} {index : Nat} {y : MethodName} {bytes : ByteArray} {maxL : Nat} {ret : Option FieldType}
    (hown : s.vm.findClass own = some m.cls) (hlink : (Cond.methodLink own index y).before args s = true) (hinst : (Cond.instanceMethod y).before args s = true) (hsel : (Cond.selects C y y).before args s = true)
    (hcode : (Cond.code y bytes maxL ret).before args s = true) (hy : y.cls ≠ "java/lang/invoke/MethodHandle" ∧ y.cls ≠ "java/lang/invoke/VarHandle")
    {W9 : Nat} {Pre : Pt → Array Value → Prop} {Post : Pt → Array Value → Option Value → Pt → Prop} {PostX : Pt → Array Value → Addr → Pt → Prop} (hK : vx_Back l R p e below s args y 3 W9 Pre Post PostX)
    {b : Addr} {cellB : Cell} (hcell : T.heap[b]? = some cellB) (hobj : cellB.vm.isStatics = false) (hcls : s.vm.findClass C = some cellB.cls)
    {g : JFrame} (hg : g.method = m) (hsize : g.locals.size = c.maxLocals) {argsL rest : List Value} (hlen : ∀ sig, parseMethodDescriptor y.desc = some sig → argsL.length = sig.parameters.length)
    (hstack : g.stack = argsL.reverse ++ .ref b :: rest) (hW : 2 * g.monitorRoom + (rest.map fun v => v.category).sum ≤ W9) (hdg : decode c.code g.pc = .ok (.invokevirtual index, 3))
    (hpre : ∀ vm₁, s.WarmedH vm₁ → Pre ⟨T.setVm vm₁, locs, cells, slots⟩ (Value.ref b :: argsL).toArray) :
    (∃ (v : Option Value) (vm₁ : Vm) (B : Pt), s.WarmedH vm₁ ∧ Stand p l e R s m args below meth c B.U B.locs B.cells B.slots ∧ Post ⟨T.setVm vm₁, locs, cells, slots⟩ (Value.ref b :: argsL).toArray v B ∧
      ∀ target, Steps p.tables e below (B.U.setTop { g with pc := g.pc + 3, stack := v.toList ++ rest }) target → Steps p.tables e below (T.setTop g) target) ∨
    (∃ (q : Addr) (vm₁ : Vm) (B : Pt), s.WarmedH vm₁ ∧ Stand p l e R s m args below meth c B.U B.locs B.cells B.slots ∧ PostX ⟨T.setVm vm₁, locs, cells, slots⟩ (Value.ref b :: argsL).toArray q B ∧
      Steps p.tables e below (T.setTop g) ((B.U.setTop { g with stack := rest }).pushFrame (.throwing q))) := by
  obtain ⟨mk, methM, hnamed, hmethM, hstM, habM⟩ := Cond.instanceMethod_spec hinst
  obtain ⟨methM', cM, hmethM', -, -, -, -, -, -, hsigM⟩ := Cond.code_spec hnamed hcode
  cases hmethM.symm.trans hmethM'
  obtain ⟨c2, r2, m2, q1, q2, q3, q4, kP, hkP, hkPi⟩ := Cond.selects_spec hsel
  cases hcls.symm.trans q1
  cases (State.methodFound?_of_named hnamed hy).symm.trans q2
  cases hnamed.symm.trans q3
  have hselP : selectMethod e.platform s.vm cellB.cls mk = .method mk := by rw [Launch.admits_selectMethod X.admits]; exact q4
  obtain ⟨vm₁, X₁, hstep₁⟩ := X.invokevirtual hexec hown hlink hnamed hmethM hstM hkP hkPi hy (a := b) (cell := cellB) hcell
    (fun z h => by rw [h] at hobj; cases hobj) hselP hmethM habM hkP hkPi (g := g) hg (argsL := argsL) (rest := rest) (hlen _ hsigM) hstack hdg
  rcases hK m meth c ⟨T.setVm vm₁, locs, cells, slots⟩ { g with stack := rest } (.invokevirtual index) mk (Value.ref b :: argsL).toArray X₁ hg hsize hdg hW (X₁.named hnamed) (hpre vm₁ X₁.warmed) with ⟨v, B, X', hpost, hsteps⟩ | ⟨q, B, X', hpost, hsteps⟩
  · exact Or.inl ⟨v, vm₁, B, X₁.warmed, X', hpost, fun target h => hstep₁ _ fun acts => by rw [doInvoke_state]; exact hsteps.trans h⟩
  · exact Or.inr ⟨q, vm₁, B, X₁.warmed, X', hpost, hstep₁ _ fun acts => by rw [doInvoke_state]; exact hsteps⟩
theorem vx_callS (X : Stand p l e R s m args below meth c T locs cells slots) (hexec : p.tables.exec = Jvm.exec) {own : String} {index : Nat} {y : MethodName} {bytes : ByteArray} {maxL : Nat} {ret : Option FieldType}
    (hown : s.vm.findClass own = some m.cls) (hlink : (Cond.methodLink own index y).before args s = true) (hstat : (Cond.static y).before args s = true) (hinit : (Cond.initialized y.cls).before args s = true)
    (hcode : (Cond.code y bytes maxL ret).before args s = true) (hy : y.cls ≠ "java/lang/invoke/MethodHandle" ∧ y.cls ≠ "java/lang/invoke/VarHandle")
    {W9 : Nat} {Pre : Pt → Array Value → Prop} {Post : Pt → Array Value → Option Value → Pt → Prop} {PostX : Pt → Array Value → Addr → Pt → Prop} (hK : vx_Back l R p e below s args y 3 W9 Pre Post PostX)
    {g : JFrame} (hg : g.method = m) (hsize : g.locals.size = c.maxLocals) {argsL rest : List Value} (hlen : ∀ sig, parseMethodDescriptor y.desc = some sig → argsL.length = sig.parameters.length)
    (hstack : g.stack = argsL.reverse ++ rest) (hW : 2 * g.monitorRoom + (rest.map fun v => v.category).sum ≤ W9) (hdg : decode c.code g.pc = .ok (.invokestatic index, 3))
    (hpre : ∀ vm₁, s.WarmedH vm₁ → Pre ⟨T.setVm vm₁, locs, cells, slots⟩ argsL.toArray) :
    (∃ (v : Option Value) (vm₁ : Vm) (B : Pt), s.WarmedH vm₁ ∧ Stand p l e R s m args below meth c B.U B.locs B.cells B.slots ∧ Post ⟨T.setVm vm₁, locs, cells, slots⟩ argsL.toArray v B ∧
      ∀ target, Steps p.tables e below (B.U.setTop { g with pc := g.pc + 3, stack := v.toList ++ rest }) target → Steps p.tables e below (T.setTop g) target) ∨
    (∃ (q : Addr) (vm₁ : Vm) (B : Pt), s.WarmedH vm₁ ∧ Stand p l e R s m args below meth c B.U B.locs B.cells B.slots ∧ PostX ⟨T.setVm vm₁, locs, cells, slots⟩ argsL.toArray q B ∧
      Steps p.tables e below (T.setTop g) ((B.U.setTop { g with stack := rest }).pushFrame (.throwing q))) := by
  obtain ⟨mk, hnamed⟩ := Cond.code_named hcode
  obtain ⟨methM, cM, hmethM, -, -, -, -, -, -, hsigM⟩ := Cond.code_spec hnamed hcode
  have hstatic : methM.isStatic = true := Cond.static_spec hnamed hmethM hstat
  obtain ⟨kP, hkP, -⟩ := className_of_methodNamed hnamed
  have hinitP : kP.init = .initialized := Cond.initialized_spec (findClass_of_methodNamed hnamed) hkP hinit
  obtain ⟨vm₁, X₁, hstep₁⟩ := X.invokestatic hexec hown hlink hnamed hmethM hstatic hkP hinitP hy (g := g) hg (argsL := argsL) (rest := rest) (hlen _ hsigM) hstack hdg
  rcases hK m meth c ⟨T.setVm vm₁, locs, cells, slots⟩ { g with stack := rest } (.invokestatic index) mk argsL.toArray X₁ hg hsize hdg hW (X₁.named hnamed) (hpre vm₁ X₁.warmed) with ⟨v, B, X', hpost, hsteps⟩ | ⟨q, B, X', hpost, hsteps⟩
  · exact Or.inl ⟨v, vm₁, B, X₁.warmed, X', hpost, fun target h => hstep₁ _ fun acts => by rw [doInvoke_state]; exact hsteps.trans h⟩
  · exact Or.inr ⟨q, vm₁, B, X₁.warmed, X', hpost, hstep₁ _ fun acts => by rw [doInvoke_state]; exact hsteps⟩
end Calls
theorem vx_cls {s : State} {T : State} {vm₁ : Vm} {E : String} {k : ClassId} (hW : s.WarmedH vm₁) (h : (T.setVm vm₁).vm.findClass E = some k) : s.vm.findClass E = some k := by
  have h1 : vm₁.findClass E = some k := h
  rw [hW.alike.findClass] at h1
  exact h1
/-- the method's frame g, with q thrown over it -/
def vx_W (p : Program) (l : Launch) (e : Env) (R : Room) (s : State) (m : MethodId) (args : Array Value) (below : List Frame) (meth : Method) (c : Code) (H : Heap) (locs : List Loc) (cells slots : Nat) (Q : State → Prop) (g : JFrame) (q : Addr) : Prop :=
  ∀ T : State, T.heap = H → Stand p l e R s m args below meth c T locs cells slots → ∃ t, Steps p.tables e below ((T.setTop g).pushFrame (.throwing q)) t ∧ Q t
def vx_Run (p : Program) (l : Launch) (e : Env) (R : Room) (s : State) (m : MethodId) (args : Array Value) (below : List Frame) (meth : Method) (c : Code) (H : Heap) (locs : List Loc) (cells slots mc ms : Nat) (g : JFrame) (rest : List Value) (Qa : State → Outcome → State → Prop) (XC : String → State → State → Prop) (free : Addr → Prop) : Prop :=
  ∀ T : State, T.heap = H → Stand p l e R s m args below meth c T locs cells slots →
    (∃ (v : Option Value) (st₀ t T' : State) (L : List Loc), st₀.heap = H ∧ Stand p l e R s m args below meth c T' (locs ++ L) (cells + mc) (slots + ms) ∧ (∀ q ∈ L, free q.base) ∧ T'.heap = t.heap ∧ T'.vm = t.vm ∧ Qa st₀ (.returned v) t ∧
      Goes p e below T g T' { g with pc := g.pc + 3, stack := v.toList ++ rest }) ∨
    (∃ (q : Addr) (st₀ t T' : State) (L : List Loc) (E : String) (ce : Cell), st₀.heap = H ∧ Stand p l e R s m args below meth c T' (locs ++ L) (cells + mc) (slots + ms) ∧ (∀ z ∈ L, free z.base) ∧ T'.heap = t.heap ∧ T'.vm = t.vm ∧ XC E st₀ t ∧ t.heap[q]? = some ce ∧ ce.vm = .none ∧ s.vm.findClass E = some ce.cls ∧
      Steps p.tables e below (T.setTop g) ((T'.setTop { g with stack := rest }).pushFrame (.throwing q)))
def vx_X {S : Type} (px : S → Prop) (B : String → S → State → Prop) (A : Nat → Prop) : String → State → State → Prop := fun E st t => ∃ u : S, px u ∧ B E u t ∧ va_F A st t
section Runs
variable {p : Program} {l : Launch} {e : Env} {R : Room} {s : State} {m : MethodId} {args : Array Value} {below : List Frame} {meth : Method} {c : Code} {H : Heap} {locs : List Loc} {cells slots : Nat}
variable {y : MethodName} {bytes cc : ByteArray} {maxL nL mc ms n index : Nat} {ret : Option FieldType} {ws : List Cond} {rm : Room} {Pc : Array Value → State → Prop} {Qc : Array Value → State → Outcome → State → Prop} {XC : String → State → State → Prop} {free : Addr → Prop} {Ts : List Cond} {own C : String} {b : Addr} {As rest : List Value} {g : JFrame}
theorem vx_callBack (cb : CallB R s args own index y bytes maxL ret ws rm mc ms n) (hM : vx_Met l y ws rm Pc Qc XC mc ms free) (hbl : FrameBlind Pc) : vx_Back l R p e below s args y 3 8 (PreOf R mc ms Pc) (PostOf Qc mc ms free) (vx_Post XC mc ms free) := by
  obtain ⟨hrc, hrs, hfr, hlo, hws, hcw, -, hini, -⟩ := cb
  exact vx_back (bytes := bytes) (maxL := maxL) (ret := ret) hM hbl hrc hrs hfr hlo hws hcw (fun a' U hW => word_at hW (Or.inl (by first | rfl | simp [Cond.onTables, Cond.keeps, Cond.steady])) hini)
theorem vx_runV (S : CallFix p m c cc nL s args Ts own) (hM : vx_Met l y ws rm Pc Qc XC mc ms free) (cw : CallW R s args own C index y bytes maxL ret ws rm mc ms n) (hp : PreV s H C b Pc As)
    (hg : g.method = m) (hn : As.length = n) (hsize : g.locals.size = nL) (hstack : g.stack = As.reverse ++ .ref b :: rest) (hW : 2 * g.monitorRoom + (rest.map fun v => v.category).sum ≤ 8) (hdg : decode cc g.pc = .ok (.invokevirtual index, 3)) (hf : cells + mc ≤ R.cells ∧ slots + ms ≤ R.slots) :
    vx_Run p l e R s m args below meth c H locs cells slots mc ms g rest (Qc (Value.ref b :: As).toArray) XC free := by
  have hK : vx_Back l R p e below s args y 3 8 (PreOf R mc ms Pc) (PostOf Qc mc ms free) (vx_Post XC mc ms free) := vx_callBack cw.1 hM hp.1
  obtain ⟨⟨-, -, -, -, -, -, hcode, -, hy, hlen, hl⟩, hin, hse⟩ := cw
  obtain ⟨hx, hb, hml, ho, -⟩ := S
  obtain ⟨-, ⟨cellB, hcB, hoB, hclB⟩, hPc⟩ := hp
  intro T hT X
  rcases vx_callV X hx (C := C) (bytes := bytes) (maxL := maxL) (ret := ret) ho hl hin hse hcode hy hK (by rw [hT]; exact hcB) hoB hclB hg (hsize.trans hml.symm) (argsL := As) (rest := rest) (fun sig h => hn.trans (hlen sig h)) hstack hW (by rw [hb]; exact hdg)
    (fun vm₁ hW₁ => ⟨hf.1, hf.2, hPc (T.setVm vm₁) hT hW₁⟩) with ⟨v, vm₁, ⟨U', l2, c2, s2⟩, hW₁, X', ⟨g', mk, t, L, e1, e2, hq, h1, hL, h2, h3⟩, st⟩ | ⟨q, vm₁, ⟨U', l2, c2, s2⟩, hW₁, X', ⟨g', mk, t, L, E, ce, e1, e2, hq, hce, hcv, hcl, h1, hL, h2, h3⟩, st⟩
  · dsimp only [Pt.U, Pt.locs, Pt.cells, Pt.slots] at X' e1 e2 h1 h2 h3 st
    subst h1; subst h2; subst h3
    exact Or.inl ⟨v, (T.setVm vm₁).calling g' mk (Value.ref b :: As).toArray, t, U', L, hT, X', hL, e1, e2, hq, st⟩
  · dsimp only [Pt.U, Pt.locs, Pt.cells, Pt.slots] at X' e1 e2 h1 h2 h3 st hcl
    subst h1; subst h2; subst h3
    exact Or.inr ⟨q, (T.setVm vm₁).calling g' mk (Value.ref b :: As).toArray, t, U', L, E, ce, hT, X', hL, e1, e2, hq, hce, hcv, vx_cls hW₁ hcl, st⟩
theorem vx_runS (S : CallFix p m c cc nL s args Ts own) (hM : vx_Met l y ws rm Pc Qc XC mc ms free) (cw : CallB R s args own index y bytes maxL ret ws rm mc ms n ∧ (Cond.static y).before args s = true) (hp : PreS s H Pc As)
    (hg : g.method = m) (hn : As.length = n) (hsize : g.locals.size = nL) (hstack : g.stack = As.reverse ++ rest) (hW : 2 * g.monitorRoom + (rest.map fun v => v.category).sum ≤ 8) (hdg : decode cc g.pc = .ok (.invokestatic index, 3)) (hf : cells + mc ≤ R.cells ∧ slots + ms ≤ R.slots) :
    vx_Run p l e R s m args below meth c H locs cells slots mc ms g rest (Qc As.toArray) XC free := by
  have hK : vx_Back l R p e below s args y 3 8 (PreOf R mc ms Pc) (PostOf Qc mc ms free) (vx_Post XC mc ms free) := vx_callBack cw.1 hM hp.1
  obtain ⟨⟨-, -, -, -, -, -, hcode, hini, hy, hlen, hl⟩, hstt⟩ := cw
  obtain ⟨hx, hb, hml, ho, -⟩ := S
  intro T hT X
  rcases vx_callS X hx (bytes := bytes) (maxL := maxL) (ret := ret) ho hl hstt hini hcode hy hK hg (hsize.trans hml.symm) (argsL := As) (rest := rest) (fun sig h => hn.trans (hlen sig h)) hstack hW (by rw [hb]; exact hdg)
    (fun vm₁ hW₁ => ⟨hf.1, hf.2, hp.2 (T.setVm vm₁) hT hW₁⟩) with ⟨v, vm₁, ⟨U', l2, c2, s2⟩, hW₁, X', ⟨g', mk, t, L, e1, e2, hq, h1, hL, h2, h3⟩, st⟩ | ⟨q, vm₁, ⟨U', l2, c2, s2⟩, hW₁, X', ⟨g', mk, t, L, E, ce, e1, e2, hq, hce, hcv, hcl, h1, hL, h2, h3⟩, st⟩
  · dsimp only [Pt.U, Pt.locs, Pt.cells, Pt.slots] at X' e1 e2 h1 h2 h3 st
    subst h1; subst h2; subst h3
    exact Or.inl ⟨v, (T.setVm vm₁).calling g' mk As.toArray, t, U', L, hT, X', hL, e1, e2, hq, st⟩
  · dsimp only [Pt.U, Pt.locs, Pt.cells, Pt.slots] at X' e1 e2 h1 h2 h3 st hcl
    subst h1; subst h2; subst h3
    exact Or.inr ⟨q, (T.setVm vm₁).calling g' mk As.toArray, t, U', L, E, ce, hT, X', hL, e1, e2, hq, hce, hcv, vx_cls hW₁ hcl, st⟩
end Runs
section Rows
variable {p : Program} {l : Launch} {e : Env} {R : Room} {s : State} {m : MethodId} {args : Array Value} {below : List Frame} {meth : Method} {c : Code} {H : Heap} {locs : List Loc} {cells slots : Nat} {Q : State → Prop}
variable {mc ms : Nat} {free : Addr → Prop} {A0 A1 : Nat → Prop} {H0 : Heap} {a : Array Value} {pc : Nat} {ls : Array Slot} {st0 rest : List Value}
theorem vx_keep {st₀ t T' : State} {L : List Loc} (h0 : st₀.heap = H) (e1 : T'.heap = t.heap) (hS : va_S A0 H0 H locs) (hA : ∀ q, q < H.size → A1 q → A0 q) (hf : ∀ q, free q → A0 q) (hL : ∀ q ∈ L, free q.base) (hF : va_F A1 st₀ t) :
    H.size ≤ T'.heap.size ∧ (∀ q : Nat, q < H.size → ¬ A1 q → T'.heap[q]? = H[q]?) ∧ va_S A0 H0 T'.heap (locs ++ L) := by
  obtain ⟨hz, hk⟩ := hF
  rw [h0] at hz hk
  exact ⟨by rw [e1]; exact hz, fun q h1 h2 => by rw [e1]; exact hk q h1 h2,
    ⟨Nat.le_trans hS.1 (by rw [e1]; exact hz), fun q h1 h2 => by rw [e1, hk q (Nat.lt_of_lt_of_le h1 hS.1) (fun z => h2 (hA q (Nat.lt_of_lt_of_le h1 hS.1) z))]; exact hS.2.1 q h1 h2, fun q hq => by
      rcases List.mem_append.mp hq with h | h
      · exact hS.2.2 q h
      · exact hf _ (hL q h)⟩⟩
theorem vx_calli {S SX : Type} {post : Int32 → S → Prop} {px : SX → Prop} {B : S → State → Prop} {BX : String → SX → State → Prop} {AX : Nat → Prop} (hr : vx_Run p l e R s m args below meth c H locs cells slots mc ms (F0 m pc ls st0) rest (va_Qi post B A1 a) (vx_X px BX AX) free) (hS : va_S A0 H0 H locs) (hA : ∀ q, q < H.size → A1 q → A0 q) (hf : ∀ q, free q → A0 q) (hAX : ∀ q, q < H.size → AX q → A0 q)
    (kx : ∀ (E : String) (ce : Cell) (q9 : Addr) (u : SX) (t : State) (H1 : Heap) (locs1 : List Loc), t.heap = H1 → s.vm.Alike t.vm → px u → BX E u t → H.size ≤ H1.size → (∀ q : Nat, q < H.size → ¬ AX q → H1[q]? = H[q]?) → va_S A0 H0 H1 locs1 → H1[q9]? = some ce → ce.vm = .none → s.vm.findClass E = some ce.cls → vx_W p l e R s m args below meth c H1 locs1 (cells + mc) (slots + ms) Q (F0 m pc ls rest) q9)
    (kk : ∀ (r : Int32) (u : S) (t : State) (H1 : Heap) (locs1 : List Loc), t.heap = H1 → s.vm.Alike t.vm → post r u → B u t → H.size ≤ H1.size → (∀ q : Nat, q < H.size → ¬ A1 q → H1[q]? = H[q]?) → va_S A0 H0 H1 locs1 → W p l e R s m args below meth c H1 locs1 (cells + mc) (slots + ms) Q (F0 m (pc + 3) ls (.int r :: rest))) : W p l e R s m args below meth c H locs cells slots Q (F0 m pc ls st0) := by
  intro T hT X
  rcases hr T hT X with ⟨v, st₀, t, T', L, h0, X', hL, e1, e2, ⟨⟨r, u, hv, hp, hb⟩, hF⟩, st⟩ | ⟨q, st₀, t, T', L, E, ce, h0, X', hL, e1, e2, ⟨u, hp, hb, hF⟩, hce, hcv, hcl, st⟩
  · cases hv
    obtain ⟨k1, k2, k3⟩ := vx_keep h0 e1 hS hA hf hL hF
    obtain ⟨t2, a1, b1⟩ := kk r u t T'.heap (locs ++ L) e1.symm (by rw [← e2]; exact X'.warmed.alike) hp hb k1 k2 k3 T' rfl X'
    exact ⟨t2, st t2 a1, b1⟩
  · obtain ⟨k1, k2, k3⟩ := vx_keep h0 e1 hS hAX hf hL hF
    obtain ⟨t2, a1, b1⟩ := kx E ce q u t T'.heap (locs ++ L) e1.symm (by rw [← e2]; exact X'.warmed.alike) hp hb k1 k2 k3 (by rw [e1]; exact hce) hcv hcl T' rfl X'
    exact ⟨t2, st.trans a1, b1⟩
theorem vx_calll {S SX : Type} {post : Int64 → S → Prop} {px : SX → Prop} {B : S → State → Prop} {BX : String → SX → State → Prop} {AX : Nat → Prop} (hr : vx_Run p l e R s m args below meth c H locs cells slots mc ms (F0 m pc ls st0) rest (va_Ql post B A1 a) (vx_X px BX AX) free) (hS : va_S A0 H0 H locs) (hA : ∀ q, q < H.size → A1 q → A0 q) (hf : ∀ q, free q → A0 q) (hAX : ∀ q, q < H.size → AX q → A0 q)
    (kx : ∀ (E : String) (ce : Cell) (q9 : Addr) (u : SX) (t : State) (H1 : Heap) (locs1 : List Loc), t.heap = H1 → s.vm.Alike t.vm → px u → BX E u t → H.size ≤ H1.size → (∀ q : Nat, q < H.size → ¬ AX q → H1[q]? = H[q]?) → va_S A0 H0 H1 locs1 → H1[q9]? = some ce → ce.vm = .none → s.vm.findClass E = some ce.cls → vx_W p l e R s m args below meth c H1 locs1 (cells + mc) (slots + ms) Q (F0 m pc ls rest) q9)
    (kk : ∀ (r : Int64) (u : S) (t : State) (H1 : Heap) (locs1 : List Loc), t.heap = H1 → s.vm.Alike t.vm → post r u → B u t → H.size ≤ H1.size → (∀ q : Nat, q < H.size → ¬ A1 q → H1[q]? = H[q]?) → va_S A0 H0 H1 locs1 → W p l e R s m args below meth c H1 locs1 (cells + mc) (slots + ms) Q (F0 m (pc + 3) ls (.long r :: rest))) : W p l e R s m args below meth c H locs cells slots Q (F0 m pc ls st0) := by
  intro T hT X
  rcases hr T hT X with ⟨v, st₀, t, T', L, h0, X', hL, e1, e2, ⟨⟨r, u, hv, hp, hb⟩, hF⟩, st⟩ | ⟨q, st₀, t, T', L, E, ce, h0, X', hL, e1, e2, ⟨u, hp, hb, hF⟩, hce, hcv, hcl, st⟩
  · cases hv
    obtain ⟨k1, k2, k3⟩ := vx_keep h0 e1 hS hA hf hL hF
    obtain ⟨t2, a1, b1⟩ := kk r u t T'.heap (locs ++ L) e1.symm (by rw [← e2]; exact X'.warmed.alike) hp hb k1 k2 k3 T' rfl X'
    exact ⟨t2, st t2 a1, b1⟩
  · obtain ⟨k1, k2, k3⟩ := vx_keep h0 e1 hS hAX hf hL hF
    obtain ⟨t2, a1, b1⟩ := kx E ce q u t T'.heap (locs ++ L) e1.symm (by rw [← e2]; exact X'.warmed.alike) hp hb k1 k2 k3 (by rw [e1]; exact hce) hcv hcl T' rfl X'
    exact ⟨t2, st.trans a1, b1⟩
theorem vx_callf {S SX : Type} {post : UInt32 → S → Prop} {px : SX → Prop} {B : S → State → Prop} {BX : String → SX → State → Prop} {AX : Nat → Prop} (hr : vx_Run p l e R s m args below meth c H locs cells slots mc ms (F0 m pc ls st0) rest (va_Qf post B A1 a) (vx_X px BX AX) free) (hS : va_S A0 H0 H locs) (hA : ∀ q, q < H.size → A1 q → A0 q) (hf : ∀ q, free q → A0 q) (hAX : ∀ q, q < H.size → AX q → A0 q)
    (kx : ∀ (E : String) (ce : Cell) (q9 : Addr) (u : SX) (t : State) (H1 : Heap) (locs1 : List Loc), t.heap = H1 → s.vm.Alike t.vm → px u → BX E u t → H.size ≤ H1.size → (∀ q : Nat, q < H.size → ¬ AX q → H1[q]? = H[q]?) → va_S A0 H0 H1 locs1 → H1[q9]? = some ce → ce.vm = .none → s.vm.findClass E = some ce.cls → vx_W p l e R s m args below meth c H1 locs1 (cells + mc) (slots + ms) Q (F0 m pc ls rest) q9)
    (kk : ∀ (r : UInt32) (u : S) (t : State) (H1 : Heap) (locs1 : List Loc), t.heap = H1 → s.vm.Alike t.vm → post r u → B u t → H.size ≤ H1.size → (∀ q : Nat, q < H.size → ¬ A1 q → H1[q]? = H[q]?) → va_S A0 H0 H1 locs1 → W p l e R s m args below meth c H1 locs1 (cells + mc) (slots + ms) Q (F0 m (pc + 3) ls (.float r :: rest))) : W p l e R s m args below meth c H locs cells slots Q (F0 m pc ls st0) := by
  intro T hT X
  rcases hr T hT X with ⟨v, st₀, t, T', L, h0, X', hL, e1, e2, ⟨⟨r, u, hv, hp, hb⟩, hF⟩, st⟩ | ⟨q, st₀, t, T', L, E, ce, h0, X', hL, e1, e2, ⟨u, hp, hb, hF⟩, hce, hcv, hcl, st⟩
  · cases hv
    obtain ⟨k1, k2, k3⟩ := vx_keep h0 e1 hS hA hf hL hF
    obtain ⟨t2, a1, b1⟩ := kk r u t T'.heap (locs ++ L) e1.symm (by rw [← e2]; exact X'.warmed.alike) hp hb k1 k2 k3 T' rfl X'
    exact ⟨t2, st t2 a1, b1⟩
  · obtain ⟨k1, k2, k3⟩ := vx_keep h0 e1 hS hAX hf hL hF
    obtain ⟨t2, a1, b1⟩ := kx E ce q u t T'.heap (locs ++ L) e1.symm (by rw [← e2]; exact X'.warmed.alike) hp hb k1 k2 k3 (by rw [e1]; exact hce) hcv hcl T' rfl X'
    exact ⟨t2, st.trans a1, b1⟩
theorem vx_calld {S SX : Type} {post : UInt64 → S → Prop} {px : SX → Prop} {B : S → State → Prop} {BX : String → SX → State → Prop} {AX : Nat → Prop} (hr : vx_Run p l e R s m args below meth c H locs cells slots mc ms (F0 m pc ls st0) rest (va_Qd post B A1 a) (vx_X px BX AX) free) (hS : va_S A0 H0 H locs) (hA : ∀ q, q < H.size → A1 q → A0 q) (hf : ∀ q, free q → A0 q) (hAX : ∀ q, q < H.size → AX q → A0 q)
    (kx : ∀ (E : String) (ce : Cell) (q9 : Addr) (u : SX) (t : State) (H1 : Heap) (locs1 : List Loc), t.heap = H1 → s.vm.Alike t.vm → px u → BX E u t → H.size ≤ H1.size → (∀ q : Nat, q < H.size → ¬ AX q → H1[q]? = H[q]?) → va_S A0 H0 H1 locs1 → H1[q9]? = some ce → ce.vm = .none → s.vm.findClass E = some ce.cls → vx_W p l e R s m args below meth c H1 locs1 (cells + mc) (slots + ms) Q (F0 m pc ls rest) q9)
    (kk : ∀ (r : UInt64) (u : S) (t : State) (H1 : Heap) (locs1 : List Loc), t.heap = H1 → s.vm.Alike t.vm → post r u → B u t → H.size ≤ H1.size → (∀ q : Nat, q < H.size → ¬ A1 q → H1[q]? = H[q]?) → va_S A0 H0 H1 locs1 → W p l e R s m args below meth c H1 locs1 (cells + mc) (slots + ms) Q (F0 m (pc + 3) ls (.double r :: rest))) : W p l e R s m args below meth c H locs cells slots Q (F0 m pc ls st0) := by
  intro T hT X
  rcases hr T hT X with ⟨v, st₀, t, T', L, h0, X', hL, e1, e2, ⟨⟨r, u, hv, hp, hb⟩, hF⟩, st⟩ | ⟨q, st₀, t, T', L, E, ce, h0, X', hL, e1, e2, ⟨u, hp, hb, hF⟩, hce, hcv, hcl, st⟩
  · cases hv
    obtain ⟨k1, k2, k3⟩ := vx_keep h0 e1 hS hA hf hL hF
    obtain ⟨t2, a1, b1⟩ := kk r u t T'.heap (locs ++ L) e1.symm (by rw [← e2]; exact X'.warmed.alike) hp hb k1 k2 k3 T' rfl X'
    exact ⟨t2, st t2 a1, b1⟩
  · obtain ⟨k1, k2, k3⟩ := vx_keep h0 e1 hS hAX hf hL hF
    obtain ⟨t2, a1, b1⟩ := kx E ce q u t T'.heap (locs ++ L) e1.symm (by rw [← e2]; exact X'.warmed.alike) hp hb k1 k2 k3 (by rw [e1]; exact hce) hcv hcl T' rfl X'
    exact ⟨t2, st.trans a1, b1⟩
theorem vx_callv {S SX : Type} {post : S → Prop} {px : SX → Prop} {B : S → State → Prop} {BX : String → SX → State → Prop} {AX : Nat → Prop} (hr : vx_Run p l e R s m args below meth c H locs cells slots mc ms (F0 m pc ls st0) rest (va_Qv post B A1 a) (vx_X px BX AX) free) (hS : va_S A0 H0 H locs) (hA : ∀ q, q < H.size → A1 q → A0 q) (hf : ∀ q, free q → A0 q) (hAX : ∀ q, q < H.size → AX q → A0 q)
    (kx : ∀ (E : String) (ce : Cell) (q9 : Addr) (u : SX) (t : State) (H1 : Heap) (locs1 : List Loc), t.heap = H1 → s.vm.Alike t.vm → px u → BX E u t → H.size ≤ H1.size → (∀ q : Nat, q < H.size → ¬ AX q → H1[q]? = H[q]?) → va_S A0 H0 H1 locs1 → H1[q9]? = some ce → ce.vm = .none → s.vm.findClass E = some ce.cls → vx_W p l e R s m args below meth c H1 locs1 (cells + mc) (slots + ms) Q (F0 m pc ls rest) q9)
    (kk : ∀ (u : S) (t : State) (H1 : Heap) (locs1 : List Loc), t.heap = H1 → s.vm.Alike t.vm → post u → B u t → H.size ≤ H1.size → (∀ q : Nat, q < H.size → ¬ A1 q → H1[q]? = H[q]?) → va_S A0 H0 H1 locs1 → W p l e R s m args below meth c H1 locs1 (cells + mc) (slots + ms) Q (F0 m (pc + 3) ls (rest))) : W p l e R s m args below meth c H locs cells slots Q (F0 m pc ls st0) := by
  intro T hT X
  rcases hr T hT X with ⟨v, st₀, t, T', L, h0, X', hL, e1, e2, ⟨⟨u, hv, hp, hb⟩, hF⟩, st⟩ | ⟨q, st₀, t, T', L, E, ce, h0, X', hL, e1, e2, ⟨u, hp, hb, hF⟩, hce, hcv, hcl, st⟩
  · cases hv
    obtain ⟨k1, k2, k3⟩ := vx_keep h0 e1 hS hA hf hL hF
    obtain ⟨t2, a1, b1⟩ := kk u t T'.heap (locs ++ L) e1.symm (by rw [← e2]; exact X'.warmed.alike) hp hb k1 k2 k3 T' rfl X'
    exact ⟨t2, st t2 a1, b1⟩
  · obtain ⟨k1, k2, k3⟩ := vx_keep h0 e1 hS hAX hf hL hF
    obtain ⟨t2, a1, b1⟩ := kx E ce q u t T'.heap (locs ++ L) e1.symm (by rw [← e2]; exact X'.warmed.alike) hp hb k1 k2 k3 (by rw [e1]; exact hce) hcv hcl T' rfl X'
    exact ⟨t2, st.trans a1, b1⟩
/-- caught by the row x of this method's table; the rows ahead don't take it -/
theorem vx_catch {own name : String} {E : String} {ce : Cell} {q : Addr} (hown : s.vm.findClass own = some m.cls) (pre : List ExceptionTableEntry) (x : ExceptionTableEntry) (suf : List ExceptionTableEntry) (hsplit : c.exceptionTable.toList = pre ++ x :: suf)
    (hpass : ∀ z ∈ pre, covers z pc = false ∨ (z.catchType ≠ 0 ∧ ∃ nm : String, (Cond.classLink own z.catchType nm).before args s = true ∧ va_Nc E nm s)) (hx : covers x pc = true) (h0 : x.catchType ≠ 0)
    (hlink : (Cond.classLink own x.catchType name).before args s = true) (hcast : (Cond.castable E name).before args s = true) (hcell : H[q]? = some ce) (hv : ce.vm = .none) (hcl : s.vm.findClass E = some ce.cls)
    (kk : W p l e R s m args below meth c H locs cells slots Q (F0 m x.handlerPc ls [.ref q])) : vx_W p l e R s m args below meth c H locs cells slots Q (F0 m pc ls rest) q := by
  intro T hT X
  have hpl : e.platform.magicAccessors = ({} : Platform).magicAccessors := by rw [X.admits.platform]
  obtain ⟨c3, c4, hc3, hc4, hasg⟩ := Cond.castable_spec hcast
  cases Option.some.inj (hc3.symm.trans hcl)
  obtain ⟨c5, hc5, hcl5⟩ := Cond.classLink_spec hown hlink e.platform hpl
  cases Option.some.inj (hc4.symm.trans hc5)
  obtain ⟨vm', X', st⟩ := X.thenCaughtThrough q (g := F0 m pc ls rest) rfl (Steps.refl _) (by rw [hT]; exact hcell) (by rw [hv]; rfl) (by obtain ⟨k9, h9, -⟩ := Vm.findClass_spec hcl; exact ⟨k9, h9⟩) pre x suf hsplit
    (fun z hz => by
      rcases hpass z hz with h | ⟨hz0, nm, hl1, hn1⟩
      · exact Or.inl h
      · obtain ⟨c6, hc6, hcl6⟩ := Cond.classLink_spec hown hl1 e.platform hpl
        obtain ⟨a8, b8, h1, h2, h3⟩ := hn1
        cases Option.some.inj (h1.symm.trans hcl)
        cases Option.some.inj (h2.symm.trans hc6)
        exact Or.inr ⟨hz0, _, hcl6, h3⟩) hx (Or.inr ⟨h0, c4, hcl5, hasg⟩)
  obtain ⟨t, a1, b1⟩ := kk (T.setVm vm') hT X'
  exact ⟨t, st.trans a1, b1⟩
end Rows
section Ends
variable {p : Program} {l : Launch} {e : Env} {R : Room} {s : State} {m : MethodId} {args : Array Value} {below : List Frame} {meth : Method} {c : Code} {H : Heap} {locs : List Loc} {cells slots : Nat} {Q : State → Prop}
variable {mc ms : Nat} {free : Addr → Prop} {A0 A1 : Nat → Prop} {H0 : Heap} {a : Array Value} {ls : Array Slot} {st0 rest : List Value}
variable {Qc : Array Value → State → Outcome → State → Prop} {XC : String → State → State → Prop}
/-- what a body that may throw owes at its end -/
def vx_MQ (below : List Frame) (Qc : Array Value → State → Outcome → State → Prop) (XC : String → State → State → Prop) (a : Array Value) (s : State) (mc ms : Nat) (free : Addr → Prop) : State → Prop := fun t =>
  ∃ o, t.status = .running ∧ Ended t below o ∧ vx_Q Qc XC mc ms free a s o t
theorem vx_ret {g : JFrame} {mc ms : Nat} (k : W p l e R s m args below meth c H locs cells slots (MQ below Qc args s mc ms free) g) : W p l e R s m args below meth c H locs cells slots (vx_MQ below Qc XC args s mc ms free) g := by
  intro T hT X
  obtain ⟨t, a1, o, b1, b2, b3, b4⟩ := k T hT X
  exact ⟨t, a1, o, b1, b2, Or.inl ⟨b3, b4⟩⟩
/-- not caught here: it goes on to the caller -/
theorem vx_widen {g : JFrame} {q : Addr} {k n : Nat} (h1 : cells ≤ k) (h2 : slots ≤ n) (kk : vx_W p l e R s m args below meth c H locs k n Q g q) : vx_W p l e R s m args below meth c H locs cells slots Q g q := fun T hT X => kk T hT (stand_widen X h1 h2)
theorem vx_out {pc : Nat} {E : String} {ce : Cell} {q : Addr} {mc ms : Nat} (hout : ∀ x ∈ c.exceptionTable.toList, covers x pc = false) (hlocks : meth.locks = false) (hcell : H[q]? = some ce) (hv : ce.vm = .none) (hcl : s.vm.findClass E = some ce.cls)
    (hx : ∀ t : State, t.heap = H → s.vm.Alike t.vm → XC E s t) (hf : ∀ z ∈ locs, free z.base) (hc : cells ≤ mc) (hs : slots ≤ ms) :
    vx_W p l e R s m args below meth c H locs cells slots (vx_MQ below Qc XC args s mc ms free) (F0 m pc ls rest) q := by
  intro T hT X
  obtain ⟨st1, hrun, hend, hW, hsm⟩ := X.leaveThrown q (g := F0 m pc ls rest) rfl rfl rfl hout hlocks
  have hcell9 : (T.setFrames (.throwing q :: below)).heap[q]? = some ce := by
    show T.heap[q]? = some ce
    rw [hT]; exact hcell
  exact ⟨_, st1, .threw q, hrun, hend, Or.inr ⟨q, rfl, E, ce, locs, hx _ hT hW.alike, hcell9, hv, hcl, hW, hsm.mono hc hs, hf⟩⟩
theorem vx_frame {U : State} {k n : Nat} (h : s.sameButNew ({ U with vm := s.vm } : State) locs k n) : s.heap.size ≤ U.heap.size ∧ ∀ q : Nat, q < s.heap.size → (∀ z ∈ locs, z.base ≠ q) → U.heap[q]? = s.heap[q]? := by
  obtain ⟨-, h2, -, -, -, h6⟩ := h
  refine ⟨h2, fun q hq hz => ?_⟩
  obtain ⟨c9, e1, e2, e3, e4⟩ := h6 q _ (Array.getElem?_eq_getElem hq)
  have hs : c9.slots = (s.heap[q]).slots := Array.ext_getElem? fun i => e4 i fun hm => hz _ hm rfl
  have h9 : c9 = s.heap[q] := by
    rw [hs] at e2
    exact e2
  have e5 : U.heap[q]? = some c9 := e1
  rw [e5, h9, Array.getElem?_eq_getElem hq]
/-- the words of a throw but the four that speak of the heap -/
def vx_no (w : Cond) : Bool := decide (w ≠ .isRef (.static Bundle.tN "UNASSIGNED_STACK" Bundle.steD)) && decide (w ≠ .isRef (.static Bundle.tN "SUPPRESSED_SENTINEL" Bundle.listD)) && decide (w ≠ .laysStatic Bundle.tN "UNASSIGNED_STACK" Bundle.steD) && decide (w ≠ .laysStatic Bundle.tN "SUPPRESSED_SENTINEL" Bundle.listD)
def vx_at0 (own : String) (ic : Nat) (X : String) (names : List String) : List Cond := (Bundle.ownAtoms0 own ic X names).filter vx_no
def vx_atS (own : String) (ic : Nat) (X : String) (names : List String) : List Cond := (Bundle.ownAtoms own ic X names).filter vx_no
/-- a word that the tables alone decide, or a good one -/
def vx_ot (w : Cond) : Bool := w.onTables || goodWord w
theorem vx_ot_at {args a' : Array Value} {s U : State} {w : Cond} (hW : s.WarmedH U.vm) (hvm : s.vm = U.vm) (hg : vx_ot w = true) (h : w.before args s = true) : w.before a' U = true := by
  simp only [vx_ot, Bool.or_eq_true] at hg
  rcases hg with hg | hg
  · exact va_tabs hg hvm h
  · exact word_at hW (good_of_word hg) h
/-- a list's words: the good ones out of the method's own list, the others by premises of their own -/
theorem vx_hat {args : Array Value} {s : State} {L B : List Cond} (h1 : ∀ w ∈ L.filter goodWord, w.before args s = true) (h2 : ∀ w ∈ L.filter (fun w => !goodWord w), w ∈ B) (h3 : ∀ w ∈ B, w.before args s = true) : ∀ w ∈ L, w.before args s = true := by
  intro w hw
  by_cases g : goodWord w = true
  · exact h1 w (List.mem_filter.mpr ⟨hw, g⟩)
  · refine h3 w (h2 w (List.mem_filter.mpr ⟨hw, ?_⟩))
    show (!goodWord w) = true
    cases hgw : goodWord w
    · rfl
    · exact absurd hgw g
theorem vx_c {args : Array Value} {s : State} {w : Cond} {B : List Cond} (h : w.before args s = true) (t : ∀ w ∈ B, w.before args s = true) : ∀ w' ∈ w :: B, w'.before args s = true := fun w' h' => (List.mem_cons.mp h').elim (fun e => by rw [e]; exact h) (t w')
theorem vx_n {args : Array Value} {s : State} : ∀ w ∈ ([] : List Cond), w.before args s = true := fun _ h => nomatch h
theorem vx_own {args : Array Value} {s : State} {L : List Cond} (h1 : ∀ w ∈ L.filter vx_no, w.before args s = true)
    (hU : (Cond.isRef (.static Bundle.tN "UNASSIGNED_STACK" Bundle.steD)).before args s = true) (hN : (Cond.isRef (.static Bundle.tN "SUPPRESSED_SENTINEL" Bundle.listD)).before args s = true)
    (lU : (Cond.laysStatic Bundle.tN "UNASSIGNED_STACK" Bundle.steD).before args s = true) (lN : (Cond.laysStatic Bundle.tN "SUPPRESSED_SENTINEL" Bundle.listD).before args s = true) : ∀ w ∈ L, w.before args s = true := by
  intro w hw
  by_cases e1 : w = .isRef (.static Bundle.tN "UNASSIGNED_STACK" Bundle.steD)
  · rw [e1]; exact hU
  · by_cases e2 : w = .isRef (.static Bundle.tN "SUPPRESSED_SENTINEL" Bundle.listD)
    · rw [e2]; exact hN
    · by_cases e3 : w = .laysStatic Bundle.tN "UNASSIGNED_STACK" Bundle.steD
      · rw [e3]; exact lU
      · by_cases e4 : w = .laysStatic Bundle.tN "SUPPRESSED_SENTINEL" Bundle.listD
        · rw [e4]; exact lN
        · exact h1 w (List.mem_filter.mpr ⟨hw, by unfold vx_no; rw [decide_eq_true e1, decide_eq_true e2, decide_eq_true e3, decide_eq_true e4]; rfl⟩)
/-- where a static field lies, its class's statics cell in H -/
def vx_L (C n d : String) (A : Nat → Prop) (U : State) (H : Heap) : Prop := ∃ (c : ClassId) (k : Class) (i : Nat) (f : Field) (a : Nat) (cell : Cell), U.vm.findClass C = some c ∧ U.fieldFound? C n d = some (c, k, i, f) ∧ f.isStatic = true ∧ k.statics = some a ∧ H[a]? = some cell ∧ cell.vm.isStatics = true ∧ cell.cls = c ∧ f.slot < cell.slots.size ∧ k.staticTypes[f.slot]? = some f.type ∧ ¬ A a
theorem vx_L.moved {C n d : String} {A : Nat → Prop} {u U : State} {H : Heap} (hvm : u.vm.Alike U.vm) (h : vx_L C n d A u H) : vx_L C n d A U H := by
  obtain ⟨c, k, i, f, a, cell, h1, h2, h3, h4, h5, h6, h7, h8, h9, h10⟩ := h
  obtain ⟨k', hi', he⟩ := State.fieldFound?_setVm hvm h2
  exact ⟨c, k', i, f, a, cell, by rw [hvm.findClass]; exact h1, hi', h3, by rw [he]; exact h4, h5, h6, h7, h8, by rw [he]; exact h9, h10⟩
theorem vx_L.kept {C n d : String} {A : Nat → Prop} {U : State} {H H1 : Heap} (h : vx_L C n d A U H) (hq : ∀ a : Nat, a < H.size → ¬ A a → H1[a]? = H[a]?) : vx_L C n d A U H1 := by
  obtain ⟨c, k, i, f, a, cell, h1, h2, h3, h4, h5, h6, h7, h8, h9, h10⟩ := h
  exact ⟨c, k, i, f, a, cell, h1, h2, h3, h4, by rw [hq a (Array.getElem?_eq_some_iff.mp h5).1 h10]; exact h5, h6, h7, h8, h9, h10⟩
theorem vx_L.narrow {C n d : String} {A B : Nat → Prop} {U : State} {H : Heap} (h : vx_L C n d A U H) (hAB : ∀ q, B q → A q) : vx_L C n d B U H := by
  obtain ⟨c, k, i, f, a, cell, h1, h2, h3, h4, h5, h6, h7, h8, h9, h10⟩ := h
  exact ⟨c, k, i, f, a, cell, h1, h2, h3, h4, h5, h6, h7, h8, h9, fun z => h10 (hAB _ z)⟩
theorem vx_L.word {C n d : String} {A : Nat → Prop} {s : State} {args : Array Value} (h : vx_L C n d A s s.heap) : (Cond.laysStatic C n d).before args s = true := by
  obtain ⟨c, k, i, f, a, cell, h1, h2, h3, h4, h5, h6, h7, h8, h9, -⟩ := h
  show (Cond.laysStatic C n d).holds args s none s [] = true
  exact Cond.laysStatic_of h1 h2 h3 h4 h5 h6 h7 h8 h9
/-- .. and what it holds: null or some reference -/
def vx_Zq (C n d : String) (A : Nat → Prop) (U : State) (H : Heap) : Prop := va_Zq C n d A U H ∧ vx_L C n d A U H
theorem vx_Zq.moved {C n d : String} {A : Nat → Prop} {u U : State} {H : Heap} (hvm : u.vm.Alike U.vm) (h : vx_Zq C n d A u H) : vx_Zq C n d A U H := ⟨va_Zq.moved hvm h.1, vx_L.moved hvm h.2⟩
theorem vx_Zq.kept {C n d : String} {A : Nat → Prop} {U : State} {H H1 : Heap} (h : vx_Zq C n d A U H) (hq : ∀ a : Nat, a < H.size → ¬ A a → H1[a]? = H[a]?) : vx_Zq C n d A U H1 := ⟨va_Zq.kept h.1 hq, vx_L.kept h.2 hq⟩
theorem vx_Zq.narrow {C n d : String} {A B : Nat → Prop} {U : State} {H : Heap} (h : vx_Zq C n d A U H) (hAB : ∀ q, B q → A q) : vx_Zq C n d B U H := ⟨va_Zq.narrow h.1 hAB, vx_L.narrow h.2 hAB⟩
theorem vx_Zqof {args : Array Value} {s : State} {C n d : String} {A : Nat → Prop} (hl : (Cond.laysStatic C n d).before args s = true) (hini : (Cond.initialized C).before args s = true) (h : (Cond.isRef (.static C n d)).before args s = true) (hA : ∀ a : Nat, a < s.heap.size → ¬ A a) : vx_Zq C n d A s s.heap := by
  refine ⟨va_Zqof hl hini h hA, ?_⟩
  obtain ⟨c, k, i, f, a, cell, h1, h2, h3, h4, h5, h6, h7, h8, h9⟩ := Cond.laysStatic_spec hl
  exact ⟨c, k, i, f, a, cell, h1, h2, h3, h4, h5, h6, h7, h8, h9, hA a (Array.getElem?_eq_some_iff.mp h5).1⟩
theorem vx_isRef {C n d : String} {v : Value} {A : Nat → Prop} {s : State} {args : Array Value} (h : va_Z C n d v A s s.heap) (hv : v.isRef = true) : (Cond.isRef (.static C n d)).before args s = true := by
  obtain ⟨cf, kf, fi, f, a, cell, h1, h2, h3, h4, h5, h6, h7, -⟩ := h
  have he : (Term.static C n d).eval args s none [] s = some v := by
    simp [Term.eval, State.fieldNamed?, h1, h2, h4, h5, h6, h7]
  simp only [Cond.before, Cond.holds, Cond.value, he]
  cases v <;> simp_all [Value.isRef]
theorem vx_isRefq {C n d : String} {A : Nat → Prop} {s : State} {args : Array Value} (h : va_Zq C n d A s s.heap) : (Cond.isRef (.static C n d)).before args s = true := by
  rcases h with h | ⟨t, h⟩
  · exact vx_isRef h rfl
  · exact vx_isRef h rfl
/-- the same frame, seen from here: as if the method were called anew in this heap -/
theorem vx_rebase {T : State} (X : Stand p l e R s m args below meth c T locs cells slots) {R' : Room} (hf : R'.frames ≤ R.frames) (hl : R'.locals ≤ R.locals) (hc : cells + R'.cells ≤ R.cells) (hs : slots + R'.slots ≤ R.slots) :
    Stand p l e R' ((T.setVm s.vm).setFrames (.invoking m args :: below)) m args below meth c T [] 0 0 := by
  have htop : (T.setVm s.vm).topJava?.isSome := X.here.top
  have hF : ((T.setVm s.vm).setFrames (.invoking m args :: below)).frames = .invoking m args :: below := State.frames_setFrames _ (State.cur_lt_of_top htop)
  obtain ⟨g₀, hg0⟩ := Option.isSome_iff_exists.mp htop
  obtain ⟨r, hr⟩ := State.topJava?_eq_some.mp hg0
  have hl9 : e.platform.stackLimits (T.setVm s.vm).me = e.platform.stackLimits s.me := X.limits
  have hb9 : (T.setVm s.vm).me.stackBytes = s.me.stackBytes := X.bytes
  refine ⟨X.admits, X.cas, X.clock, hF, ?_, X.hears, X.method, X.code, X.here, X.tail, X.warmed, ?_, ?_, ?_⟩
  · have h := X.room
    have hU : ((T.setVm s.vm).setFrames (.invoking m args :: below)).localsInUse = s.localsInUse := by
      rw [State.localsInUse_invoking hF (meth := meth) (c := c) X.method X.code, State.localsInUse_invoking X.frames X.method X.code]
    simp only [State.hasRoom, Bool.and_eq_true, decide_eq_true_eq] at h ⊢
    obtain ⟨⟨⟨⟨h1, h2, h3, h4, h5, h6⟩, h7⟩, h8⟩, h9⟩ := h
    rw [X.frames, List.length_cons] at h2 h3
    have q1 := X.heapSize
    have q2 := X.used
    simp only [hF, hU, List.length_cons, State.stackLimits_setFrames, State.stackBytes_setFrames, hl9, hb9]
    refine ⟨⟨⟨⟨by omega, by omega, by omega, by omega, by omega, h6⟩, ?_⟩, ?_⟩, X.book⟩
    · show T.heap.size + R'.cells ≤ e.platform.maxCells
      omega
    · show T.slotsUsed + R'.slots ≤ e.platform.maxSlots
      omega
  · rw [State.stackLimits_setFrames]; rfl
  · rw [State.stackBytes_setFrames]; rfl
  · refine ⟨?_, Nat.le_refl _, Nat.le_refl _, ?_, ?_, fun a c9 h9 => ⟨c9, h9, rfl, rfl, fun _ _ => rfl⟩⟩
    · obtain ⟨t, ht, -⟩ := State.frames_cons hr
      show T.setVm s.vm = { ((T.setVm s.vm).setFrames (.invoking m args :: below)).setFrames (T.setVm s.vm).frames with heap := T.heap, slotsUsed := T.slotsUsed }
      rw [State.setFrames_setFrames, State.setFrames_self ht]
      rfl
    · show T.slotsUsed = T.slotsUsed + ((T.heap.toList.drop T.heap.size).map (·.slots.size)).sum
      rw [List.drop_eq_nil_of_le (Nat.le_of_eq Array.length_toList)]
      rfl
    · show ((T.heap.toList.drop T.heap.size).map (·.slots.size)).sum ≤ 0
      rw [List.drop_eq_nil_of_le (Nat.le_of_eq Array.length_toList)]
      exact Nat.le_refl _
/-- 'throw new E()': new; dup; invokespecial; athrow -/
theorem vx_throw0 {cc : ByteArray} {pc : Nat} (hexec : p.tables.exec = Jvm.exec) (hb : c.code = cc) (hl : l.stackTraces = false) {own cls : String} {names : List String} {ik ic mc ms : Nat} {A : Nat → Prop}
    (hown : s.vm.findClass own = some m.cls) (hcls : Bundle.fit cls = true) (hnames : ∀ n ∈ names, Bundle.fit n = true)
    (hk : (Cond.classLink own ik cls).before args s = true) (hini : (Cond.initialized cls).before args s = true) (hat : ∀ w ∈ vx_at0 own ic cls names, w.before args s = true)
    (hgood : ∀ w ∈ Cond.classLink own ik cls :: Cond.initialized cls :: vx_at0 own ic cls names, vx_ot w = true)
    (hU : vx_Zq Bundle.tN "UNASSIGNED_STACK" Bundle.steD A s s.heap) (hN : vx_Zq Bundle.tN "SUPPRESSED_SENTINEL" Bundle.listD A s s.heap) (hS : va_S A s.heap H locs) (hsize : ls.size = c.maxLocals)
    (d0 : decode cc pc = .ok (.new ik, 3)) (d3 : decode cc (pc + 3) = .ok (.dup, 1)) (d4 : decode cc (pc + 4) = .ok (.invokespecial ic, 3)) (d7 : decode cc (pc + 7) = .ok (.athrow, 1))
    (hout : ∀ x ∈ c.exceptionTable.toList, covers x (pc + 7) = false)
    (hRframes : names.length + 3 < R.frames) (hRlocals : (rest.map fun v => v.category).sum + (13 * (names.length + 1) + 42) ≤ R.locals) (hRcells : cells + 1 ≤ R.cells) (hRslots : slots + 6 ≤ R.slots) (hlocks : meth.locks = false)
    (hx : ∀ t : State, s.vm.Alike t.vm → H.size ≤ t.heap.size → (∀ q : Nat, q < H.size → t.heap[q]? = H[q]?) → XC cls s t)
    (hf : ∀ z ∈ locs, free z.base) (hc : cells + 1 ≤ mc) (hs : slots + 6 ≤ ms) :
    W p l e R s m args below meth c H locs cells slots (vx_MQ below Qc XC args s mc ms free) (F0 m pc ls rest) := by
  intro T hT X
  have htr : e.platform.stackTraces = false := (show e.platform.stackTraces = l.stackTraces by rw [X.admits.platform]).trans hl
  have Y := vx_rebase X (R' := { frames := R.frames, locals := R.locals, cells := 1, slots := 6 }) (Nat.le_refl _) (Nat.le_refl _) hRcells hRslots
  obtain ⟨s', hA⟩ : ∃ z, z = (T.setVm s.vm).setFrames (.invoking m args :: below) := ⟨_, rfl⟩
  rw [← hA] at Y
  have hvm : s'.vm = s.vm := by rw [hA]; rfl
  have hhp : s'.heap = H := by rw [hA]; exact hT
  have hW0 : s.WarmedH s'.vm := by rw [hvm]; exact State.WarmedH.refl s
  have hat' : ∀ w ∈ vx_at0 own ic cls names, w.before args s' = true := fun w hw => vx_ot_at hW0 hvm.symm (hgood w (List.mem_cons_of_mem _ (List.mem_cons_of_mem _ hw))) (hat w hw)
  have hk' : (Cond.classLink own ik cls).before args s' = true := vx_ot_at hW0 hvm.symm (hgood _ List.mem_cons_self) hk
  have hini' : (Cond.initialized cls).before args s' = true := vx_ot_at hW0 hvm.symm (hgood _ (List.mem_cons_of_mem _ List.mem_cons_self)) hini
  have hU' : vx_Zq Bundle.tN "UNASSIGNED_STACK" Bundle.steD A s' s'.heap := by rw [hhp]; exact vx_Zq.moved hW0.alike (hU.kept hS.2.1)
  have hN' : vx_Zq Bundle.tN "SUPPRESSED_SENTINEL" Bundle.listD A s' s'.heap := by rw [hhp]; exact vx_Zq.moved hW0.alike (hN.kept hS.2.1)
  have h : ∀ w ∈ Bundle.ownAtoms0 own ic cls names, w.before args s' = true := vx_own hat' (vx_isRefq hU'.1) (vx_isRefq hN'.1) hU'.2.word hN'.2.word
  have hown' : s'.vm.findClass own = some m.cls := by rw [hvm]; exact hown
  have hins : (Cond.instantiable cls 6).before args s' = true := h _ (by simp [Bundle.ownAtoms0])
  obtain ⟨vm₁, cX, kX, hfX, hkX, -, -, X₁, st1⟩ := Y.newCold hexec (own := own) (C := cls) (index := ik) (n := 6) hown' hk' hins hini'
    (g := F0 m pc ls rest) rfl (by rw [hb]; exact d0) (Nat.le_refl _) (Nat.le_refl _)
  generalize hT1 : (T.setVm vm₁).pushCell { cls := cX, slots := kX.instanceTypes.map defaultValue, vm := .none } = T1 at X₁ st1
  have hcat : (Value.ref T.heap.size).category = 1 := rfl
  have hcellA : T1.heap[T.heap.size]? = some (freshCell cX kX) := by rw [← hT1]; exact State.heap_pushCell_size _ _
  have d3' : decode c.code (pc + 3) = .ok (.dup, 1) := by rw [hb]; exact d3
  obtain ⟨U, hsteps, hrun, hend, hW, hsame, ce, hce, hO⟩ := X₁.ctorThrow0 hexec htr (own := own) (cls := cls) (names := names) (ic := ic) hown' hcls hnames h (fun x hx => nomatch hx) hfX hkX hcellA (by rw [hhp, hT]; exact Nat.le_refl _)
    (g := { method := m, pc := pc + 4, locals := ls, stack := .ref T.heap.size :: .ref T.heap.size :: rest, locked := none }) rfl hsize rfl rfl (rest := rest) rfl
    (by rw [hb]; exact d4) (by rw [hb]; exact d7) hout hRframes (by simp only [List.map_cons, List.sum_cons, hcat]; omega) hlocks
  obtain ⟨f1, f2⟩ := vx_frame hsame
  rw [hhp] at f1 f2
  have hWs : s.WarmedH U.vm := State.WarmedH.trans hW0 hW
  have hcl : s.vm.findClass cls = some ce.cls := by
    have h9 := hO.cls
    rw [hvm] at h9
    exact h9
  have hall : s.sameButNew ({ U with vm := s.vm } : State) locs mc ms := by
    subst hA
    obtain ⟨e1, e2⟩ := hsame
    rw [State.setFrames_setFrames] at e1
    have h2 : (T.setVm s.vm).sameButNew ({ U with vm := s.vm } : State) [] (0 + 1) (0 + 6) := ⟨e1, e2⟩
    have h3 := X.same.trans h2
    rw [List.append_nil] at h3
    exact h3.mono hc hs
  refine ⟨U, ?_, .threw T.heap.size, hrun, hend, Or.inr ⟨T.heap.size, rfl, cls, ce, locs, hx U hWs.alike f1 (fun q hq => f2 q hq (fun z hz => nomatch hz)), hce, hO.vm, hcl, hWs, hall, hf⟩⟩
  refine st1 _ ?_
  show Steps p.tables e below (T1.setTop { method := m, pc := pc + 3, locals := ls, stack := .ref T.heap.size :: rest, locked := none }) _
  jvm_step X₁.here [X₁.here.top, hexec, d3', Value.category]
  exact hsteps
/-- 'throw new E("text")': new; dup; ldc; invokespecial; athrow -/
theorem vx_throwS {cc : ByteArray} {pc : Nat} (hexec : p.tables.exec = Jvm.exec) (hb : c.code = cc) (hl : l.stackTraces = false) {own cls text : String} {names : List String} {ik is ic mc ms sa : Nat} {A : Nat → Prop}
    (hown : s.vm.findClass own = some m.cls) (hcls : Bundle.fit cls = true) (hnames : ∀ n ∈ names, Bundle.fit n = true)
    (hk : (Cond.classLink own ik cls).before args s = true) (hini : (Cond.initialized cls).before args s = true) (hstr : vk_R own is text sa s) (hat : ∀ w ∈ vx_atS own ic cls names, w.before args s = true)
    (hgood : ∀ w ∈ Cond.classLink own ik cls :: Cond.initialized cls :: vx_atS own ic cls names, vx_ot w = true)
    (hU : vx_Zq Bundle.tN "UNASSIGNED_STACK" Bundle.steD A s s.heap) (hN : vx_Zq Bundle.tN "SUPPRESSED_SENTINEL" Bundle.listD A s s.heap) (hS : va_S A s.heap H locs) (hsize : ls.size = c.maxLocals)
    (d0 : decode cc pc = .ok (.new ik, 3)) (d3 : decode cc (pc + 3) = .ok (.dup, 1)) (d4 : decode cc (pc + 4) = .ok (.ldc is, 2)) (d6 : decode cc (pc + 6) = .ok (.invokespecial ic, 3)) (d9 : decode cc (pc + 9) = .ok (.athrow, 1))
    (hout : ∀ x ∈ c.exceptionTable.toList, covers x (pc + 9) = false)
    (hRframes : names.length + 3 < R.frames) (hRlocals : (rest.map fun v => v.category).sum + (13 * (names.length + 1) + 43) ≤ R.locals) (hRcells : cells + 1 ≤ R.cells) (hRslots : slots + 6 ≤ R.slots) (hlocks : meth.locks = false)
    (hx : ∀ t : State, s.vm.Alike t.vm → H.size ≤ t.heap.size → (∀ q : Nat, q < H.size → t.heap[q]? = H[q]?) → XC cls s t)
    (hf : ∀ z ∈ locs, free z.base) (hc : cells + 1 ≤ mc) (hs : slots + 6 ≤ ms) :
    W p l e R s m args below meth c H locs cells slots (vx_MQ below Qc XC args s mc ms free) (F0 m pc ls rest) := by
  intro T hT X
  have htr : e.platform.stackTraces = false := (show e.platform.stackTraces = l.stackTraces by rw [X.admits.platform]).trans hl
  have Y := vx_rebase X (R' := { frames := R.frames, locals := R.locals, cells := 1, slots := 6 }) (Nat.le_refl _) (Nat.le_refl _) hRcells hRslots
  obtain ⟨s', hA⟩ : ∃ z, z = (T.setVm s.vm).setFrames (.invoking m args :: below) := ⟨_, rfl⟩
  rw [← hA] at Y
  have hvm : s'.vm = s.vm := by rw [hA]; rfl
  have hhp : s'.heap = H := by rw [hA]; exact hT
  have hW0 : s.WarmedH s'.vm := by rw [hvm]; exact State.WarmedH.refl s
  have hat' : ∀ w ∈ vx_atS own ic cls names, w.before args s' = true := fun w hw => vx_ot_at hW0 hvm.symm (hgood w (List.mem_cons_of_mem _ (List.mem_cons_of_mem _ hw))) (hat w hw)
  have hk' : (Cond.classLink own ik cls).before args s' = true := vx_ot_at hW0 hvm.symm (hgood _ List.mem_cons_self) hk
  have hini' : (Cond.initialized cls).before args s' = true := vx_ot_at hW0 hvm.symm (hgood _ (List.mem_cons_of_mem _ List.mem_cons_self)) hini
  have hU' : vx_Zq Bundle.tN "UNASSIGNED_STACK" Bundle.steD A s' s'.heap := by rw [hhp]; exact vx_Zq.moved hW0.alike (hU.kept hS.2.1)
  have hN' : vx_Zq Bundle.tN "SUPPRESSED_SENTINEL" Bundle.listD A s' s'.heap := by rw [hhp]; exact vx_Zq.moved hW0.alike (hN.kept hS.2.1)
  have h : ∀ w ∈ Bundle.ownAtoms own ic cls names, w.before args s' = true := vx_own hat' (vx_isRefq hU'.1) (vx_isRefq hN'.1) hU'.2.word hN'.2.word
  have hown' : s'.vm.findClass own = some m.cls := by rw [hvm]; exact hown
  have hins : (Cond.instantiable cls 6).before args s' = true := h _ (by simp [Bundle.ownAtoms])
  obtain ⟨vm₁, cX, kX, hfX, hkX, -, -, X₁, st1⟩ := Y.newCold hexec (own := own) (C := cls) (index := ik) (n := 6) hown' hk' hins hini'
    (g := F0 m pc ls rest) rfl (by rw [hb]; exact d0) (Nat.le_refl _) (Nat.le_refl _)
  generalize hT1 : (T.setVm vm₁).pushCell { cls := cX, slots := kX.instanceTypes.map defaultValue, vm := .none } = T1 at X₁ st1
  have hcat : (Value.ref T.heap.size).category = 1 := rfl
  have hcellA : T1.heap[T.heap.size]? = some (freshCell cX kX) := by rw [← hT1]; exact State.heap_pushCell_size _ _
  have d3' : decode c.code (pc + 3) = .ok (.dup, 1) := by rw [hb]; exact d3
  have d4' : decode c.code (pc + 4) = .ok (.ldc is, 2) := by rw [hb]; exact d4
  have hstr' : vk_R own is text sa s' := vk_R.warm hW0 hstr
  obtain ⟨U, hsteps, hrun, hend, hW, hsame, ce, hce, hO⟩ := X₁.ctorThrowS hexec htr (own := own) (cls := cls) (names := names) (ic := ic) hown' hcls hnames h (fun x hx => nomatch hx) hfX hkX hcellA (by rw [hhp, hT]; exact Nat.le_refl _) (msg := .ref sa) rfl
    (g := { method := m, pc := pc + 6, locals := ls, stack := .ref sa :: .ref T.heap.size :: .ref T.heap.size :: rest, locked := none }) rfl hsize rfl rfl (rest := rest) rfl
    (by rw [hb]; exact d6) (by rw [hb]; exact d9) hout hRframes (by simp only [List.map_cons, List.sum_cons, hcat]; omega) hlocks
  obtain ⟨f1, f2⟩ := vx_frame hsame
  rw [hhp] at f1 f2
  have hWs : s.WarmedH U.vm := State.WarmedH.trans hW0 hW
  have hcl : s.vm.findClass cls = some ce.cls := by
    have h9 := hO.cls
    rw [hvm] at h9
    exact h9
  have hall : s.sameButNew ({ U with vm := s.vm } : State) locs mc ms := by
    subst hA
    obtain ⟨e1, e2⟩ := hsame
    rw [State.setFrames_setFrames] at e1
    have h2 : (T.setVm s.vm).sameButNew ({ U with vm := s.vm } : State) [] (0 + 1) (0 + 6) := ⟨e1, e2⟩
    have h3 := X.same.trans h2
    rw [List.append_nil] at h3
    exact h3.mono hc hs
  refine ⟨U, ?_, .threw T.heap.size, hrun, hend, Or.inr ⟨T.heap.size, rfl, cls, ce, locs, hx U hWs.alike f1 (fun q hq => f2 q hq (fun z hz => nomatch hz)), hce, hO.vm, hcl, hWs, hall, hf⟩⟩
  refine st1 _ ?_
  show Steps p.tables e below (T1.setTop { method := m, pc := pc + 3, locals := ls, stack := .ref T.heap.size :: rest, locked := none }) _
  jvm_step X₁.here [X₁.here.top, hexec, d3', Value.category]
  exact X₁.ldcString hexec (own := own) (text := text) (index := is) (a := sa) hown' hstr'.1 hstr'.2
    (g := { method := m, pc := pc + 4, locals := ls, stack := .ref T.heap.size :: .ref T.heap.size :: rest, locked := none }) rfl d4' _ hsteps
/-- 'throw new E("text")', the text by a wide index -/
theorem vx_throwSW {cc : ByteArray} {pc : Nat} (hexec : p.tables.exec = Jvm.exec) (hb : c.code = cc) (hl : l.stackTraces = false) {own cls text : String} {names : List String} {ik is ic mc ms sa : Nat} {A : Nat → Prop}
    (hown : s.vm.findClass own = some m.cls) (hcls : Bundle.fit cls = true) (hnames : ∀ n ∈ names, Bundle.fit n = true)
    (hk : (Cond.classLink own ik cls).before args s = true) (hini : (Cond.initialized cls).before args s = true) (hstr : vk_R own is text sa s) (hat : ∀ w ∈ vx_atS own ic cls names, w.before args s = true)
    (hgood : ∀ w ∈ Cond.classLink own ik cls :: Cond.initialized cls :: vx_atS own ic cls names, vx_ot w = true)
    (hU : vx_Zq Bundle.tN "UNASSIGNED_STACK" Bundle.steD A s s.heap) (hN : vx_Zq Bundle.tN "SUPPRESSED_SENTINEL" Bundle.listD A s s.heap) (hS : va_S A s.heap H locs) (hsize : ls.size = c.maxLocals)
    (d0 : decode cc pc = .ok (.new ik, 3)) (d3 : decode cc (pc + 3) = .ok (.dup, 1)) (d4 : decode cc (pc + 4) = .ok (.ldc_w is, 3)) (d7 : decode cc (pc + 7) = .ok (.invokespecial ic, 3)) (d10 : decode cc (pc + 10) = .ok (.athrow, 1))
    (hout : ∀ x ∈ c.exceptionTable.toList, covers x (pc + 10) = false)
    (hRframes : names.length + 3 < R.frames) (hRlocals : (rest.map fun v => v.category).sum + (13 * (names.length + 1) + 43) ≤ R.locals) (hRcells : cells + 1 ≤ R.cells) (hRslots : slots + 6 ≤ R.slots) (hlocks : meth.locks = false)
    (hx : ∀ t : State, s.vm.Alike t.vm → H.size ≤ t.heap.size → (∀ q : Nat, q < H.size → t.heap[q]? = H[q]?) → XC cls s t)
    (hf : ∀ z ∈ locs, free z.base) (hc : cells + 1 ≤ mc) (hs : slots + 6 ≤ ms) :
    W p l e R s m args below meth c H locs cells slots (vx_MQ below Qc XC args s mc ms free) (F0 m pc ls rest) := by
  intro T hT X
  have htr : e.platform.stackTraces = false := (show e.platform.stackTraces = l.stackTraces by rw [X.admits.platform]).trans hl
  have Y := vx_rebase X (R' := { frames := R.frames, locals := R.locals, cells := 1, slots := 6 }) (Nat.le_refl _) (Nat.le_refl _) hRcells hRslots
  obtain ⟨s', hA⟩ : ∃ z, z = (T.setVm s.vm).setFrames (.invoking m args :: below) := ⟨_, rfl⟩
  rw [← hA] at Y
  have hvm : s'.vm = s.vm := by rw [hA]; rfl
  have hhp : s'.heap = H := by rw [hA]; exact hT
  have hW0 : s.WarmedH s'.vm := by rw [hvm]; exact State.WarmedH.refl s
  have hat' : ∀ w ∈ vx_atS own ic cls names, w.before args s' = true := fun w hw => vx_ot_at hW0 hvm.symm (hgood w (List.mem_cons_of_mem _ (List.mem_cons_of_mem _ hw))) (hat w hw)
  have hk' : (Cond.classLink own ik cls).before args s' = true := vx_ot_at hW0 hvm.symm (hgood _ List.mem_cons_self) hk
  have hini' : (Cond.initialized cls).before args s' = true := vx_ot_at hW0 hvm.symm (hgood _ (List.mem_cons_of_mem _ List.mem_cons_self)) hini
  have hU' : vx_Zq Bundle.tN "UNASSIGNED_STACK" Bundle.steD A s' s'.heap := by rw [hhp]; exact vx_Zq.moved hW0.alike (hU.kept hS.2.1)
  have hN' : vx_Zq Bundle.tN "SUPPRESSED_SENTINEL" Bundle.listD A s' s'.heap := by rw [hhp]; exact vx_Zq.moved hW0.alike (hN.kept hS.2.1)
  have h : ∀ w ∈ Bundle.ownAtoms own ic cls names, w.before args s' = true := vx_own hat' (vx_isRefq hU'.1) (vx_isRefq hN'.1) hU'.2.word hN'.2.word
  have hown' : s'.vm.findClass own = some m.cls := by rw [hvm]; exact hown
  have hins : (Cond.instantiable cls 6).before args s' = true := h _ (by simp [Bundle.ownAtoms])
  obtain ⟨vm₁, cX, kX, hfX, hkX, -, -, X₁, st1⟩ := Y.newCold hexec (own := own) (C := cls) (index := ik) (n := 6) hown' hk' hins hini'
    (g := F0 m pc ls rest) rfl (by rw [hb]; exact d0) (Nat.le_refl _) (Nat.le_refl _)
  generalize hT1 : (T.setVm vm₁).pushCell { cls := cX, slots := kX.instanceTypes.map defaultValue, vm := .none } = T1 at X₁ st1
  have hcat : (Value.ref T.heap.size).category = 1 := rfl
  have hcellA : T1.heap[T.heap.size]? = some (freshCell cX kX) := by rw [← hT1]; exact State.heap_pushCell_size _ _
  have d3' : decode c.code (pc + 3) = .ok (.dup, 1) := by rw [hb]; exact d3
  have d4' : decode c.code (pc + 4) = .ok (.ldc_w is, 3) := by rw [hb]; exact d4
  have hstr' : vk_R own is text sa s' := vk_R.warm hW0 hstr
  obtain ⟨U, hsteps, hrun, hend, hW, hsame, ce, hce, hO⟩ := X₁.ctorThrowS hexec htr (own := own) (cls := cls) (names := names) (ic := ic) hown' hcls hnames h (fun x hx => nomatch hx) hfX hkX hcellA (by rw [hhp, hT]; exact Nat.le_refl _) (msg := .ref sa) rfl
    (g := { method := m, pc := pc + 7, locals := ls, stack := .ref sa :: .ref T.heap.size :: .ref T.heap.size :: rest, locked := none }) rfl hsize rfl rfl (rest := rest) rfl
    (by rw [hb]; exact d7) (by rw [hb]; exact d10) hout hRframes (by simp only [List.map_cons, List.sum_cons, hcat]; omega) hlocks
  obtain ⟨f1, f2⟩ := vx_frame hsame
  rw [hhp] at f1 f2
  have hWs : s.WarmedH U.vm := State.WarmedH.trans hW0 hW
  have hcl : s.vm.findClass cls = some ce.cls := by
    have h9 := hO.cls
    rw [hvm] at h9
    exact h9
  have hall : s.sameButNew ({ U with vm := s.vm } : State) locs mc ms := by
    subst hA
    obtain ⟨e1, e2⟩ := hsame
    rw [State.setFrames_setFrames] at e1
    have h2 : (T.setVm s.vm).sameButNew ({ U with vm := s.vm } : State) [] (0 + 1) (0 + 6) := ⟨e1, e2⟩
    have h3 := X.same.trans h2
    rw [List.append_nil] at h3
    exact h3.mono hc hs
  refine ⟨U, ?_, .threw T.heap.size, hrun, hend, Or.inr ⟨T.heap.size, rfl, cls, ce, locs, hx U hWs.alike f1 (fun q hq => f2 q hq (fun z hz => nomatch hz)), hce, hO.vm, hcl, hWs, hall, hf⟩⟩
  refine st1 _ ?_
  show Steps p.tables e below (T1.setTop { method := m, pc := pc + 3, locals := ls, stack := .ref T.heap.size :: rest, locked := none }) _
  jvm_step X₁.here [X₁.here.top, hexec, d3', Value.category]
  exact X₁.ldcStringW hexec (own := own) (text := text) (index := is) (a := sa) hown' hstr'.1 hstr'.2
    (g := { method := m, pc := pc + 4, locals := ls, stack := .ref T.heap.size :: .ref T.heap.size :: rest, locked := none }) rfl d4' _ hsteps
end Ends
section Bodies
variable {l : Launch}
theorem vx_ofW {y : MethodName} {ws ws' : List Cond} {rm : Room} {Pc : Array Value → State → Prop} {Qc : Array Value → State → Outcome → State → Prop} {XC : String → State → State → Prop} {mc ms : Nat} {free : Addr → Prop} {cc : ByteArray} {maxL : Nat} {ret : Option FieldType}
    (hy : plainName y.cls = true) (hw : ws = Cond.code y cc maxL ret :: ws')
    (body : ∀ p e s m args below meth c s₁, BodyLoose p l y (headSpec ws rm) cc maxL ret e s m args below meth c s₁ → c.maxLocals = maxL → (∀ x ∈ c.exceptionTable.toList, False) → Pc args s →
      W p l e (headSpec ws rm).room s m args below meth c s.heap [] 0 0 (vx_MQ below Qc XC args s mc ms free) (entryFrame m args maxL)) : vx_Met l y ws rm Pc Qc XC mc ms free := by
  refine MetFree.of_bodyS (code := cc) (maxLocals := maxL) (ret := ret) hy ?_ ?_
  · intro args s m h hn
    obtain ⟨meth, c, h1, h2, h3, h4, h5, h6, -, -⟩ := Cond.code_spec hn (atoms_spec (ws := ws) h _ (by rw [hw]; exact List.mem_cons_self))
    exact ⟨meth, c, h1, h2, h3, h4, h5, h6⟩
  · intro p e s m args below meth c s₁ B hml hP _
    have hh0 : s₁.heap = s.heap := by rw [B.state]; rfl
    have ht : ∀ x ∈ c.exceptionTable.toList, False := by
      obtain ⟨meth9, c9, h1, h2, -, -, -, -, h7, -⟩ := Cond.code_spec B.named (atoms_spec (ws := ws) B.pre _ (by rw [hw]; exact List.mem_cons_self))
      cases Option.some.inj (h1.symm.trans B.method)
      cases Option.some.inj (h2.symm.trans (Stand.of_body B).code)
      intro x hx
      rw [Array.isEmpty_iff.mp h7] at hx
      cases hx
    obtain ⟨t, a1, o, b1, b2, b3⟩ := body p e s m args below meth c s₁ B hml ht hP s₁ hh0 (Stand.of_body B)
    exact ⟨t, o, a1, b1, b2, b3⟩
/-- the table of a body with handlers -/
theorem vx_table {p : Program} {x y : MethodName} {S : Spec} {cc bytes : ByteArray} {maxL maxL' : Nat} {ret ret' : Option FieldType} {e : Env} {s s₁ : State} {m : MethodId} {args : Array Value} {below : List Frame} {meth : Method} {c : Code} {hh : List (Nat × Nat × Nat × Nat)}
    (B : BodyLoose p l y S cc maxL ret e s m args below meth c s₁) (h : (Cond.codeWith y bytes maxL' ret' hh).before args s = true) : c.exceptionTable.toList = tableOf hh := by
  obtain ⟨m9, meth9, c9, hn9, h1, h2, -, -, h6, -⟩ := Cond.codeWith_spec h
  cases Option.some.inj (hn9.symm.trans B.named)
  cases Option.some.inj (h1.symm.trans B.method)
  cases Option.some.inj (h2.symm.trans (Stand.of_body B).code)
  rw [← h6, table_eq]
end Bodies
end VXA
/-! ===== END ===== -/
/-! ===== BEGIN a static call of a method with an exception table ===== -/
section VXS
variable {p : Program} {l : Launch} {e : Env} {R : Room} {s : State} {m : MethodId} {args : Array Value} {below : List Frame} {meth : Method} {c : Code} {T : State} {H : Heap} {locs : List Loc} {cells slots : Nat}
abbrev vx_CSW (R : Room) (s : State) (args : Array Value) (own : String) (index : Nat) (y : MethodName) (bytes : ByteArray) (maxL : Nat) (ret : Option FieldType) (hh : List (Nat × Nat × Nat × Nat)) (ws : List Cond) (rm : Room) (mc ms n : Nat) : Prop :=
  (rm.cells = mc ∧ rm.slots = ms ∧ rm.frames + 1 ≤ R.frames ∧ 8 + (maxL + 11) + rm.locals ≤ R.locals ∧ (∀ w ∈ ws, ∀ (a' : Array Value) (U : State), s.WarmedH U.vm → w.before a' U = true) ∧ Cond.codeWith y bytes maxL ret hh ∈ ws) ∧
  (Cond.codeWith y bytes maxL ret hh).before args s = true ∧ (Cond.initialized y.cls).before args s = true ∧ (y.cls ≠ "java/lang/invoke/MethodHandle" ∧ y.cls ≠ "java/lang/invoke/VarHandle") ∧
  (∀ sig, parseMethodDescriptor y.desc = some sig → n = sig.parameters.length) ∧ (Cond.methodLink own index y).before args s = true ∧ (Cond.static y).before args s = true
theorem vx_cwSW {own : String} {index maxL mc ms : Nat} {y : MethodName} {bytes : ByteArray} {ret : Option FieldType} {hh : List (Nat × Nat × Nat × Nat)} {Ts ws ws' : List Cond} {rm : Room} (n : Nat) (ht : ∀ w ∈ Ts, w.before args s = true) (hT : GoodIn Ts (va_wsS own index y ws)) (hw : ws = Cond.codeWith y bytes maxL ret hh :: ws') (hrc : rm.cells = mc) (hrs : rm.slots = ms)
    (hd : y.cls ≠ "java/lang/invoke/MethodHandle" ∧ y.cls ≠ "java/lang/invoke/VarHandle" ∧ (parseMethodDescriptor y.desc).map (fun d => d.parameters.length) = some n) (hR : rm.frames + 1 ≤ R.frames ∧ 8 + (maxL + 11) + rm.locals ≤ R.locals) :
    vx_CSW R s args own index y bytes maxL ret hh ws rm mc ms n := by
  have ok : ∀ w ∈ va_wsS own index y ws, w.before args s = true := fun w h => ht w (hT w h).1
  have hG : GoodIn Ts ws := fun w h => hT w (by unfold va_wsS; exact List.mem_append_right _ h)
  have hc : Cond.codeWith y bytes maxL ret hh ∈ ws := by rw [hw]; exact List.mem_cons_self
  refine ⟨⟨hrc, hrs, hR.1, hR.2, pay_in ht hG, hc⟩, ht _ (hG _ hc).1, ok _ (by simp [va_wsS]), ⟨hd.1, hd.2.1⟩, fun sig h => ?_, ok _ (by simp [va_wsS]), ok _ (by simp [va_wsS])⟩
  have h2 := hd.2.2
  rw [h] at h2
  exact (Option.some.inj h2).symm
theorem vx_callSW (X : Stand p l e R s m args below meth c T locs cells slots) (hexec : p.tables.exec = Jvm.exec) {own : String} {index : Nat} {y : MethodName} {bytes : ByteArray} {maxL : Nat} {ret : Option FieldType} {hh : List (Nat × Nat × Nat × Nat)}
    (hown : s.vm.findClass own = some m.cls) (hlink : (Cond.methodLink own index y).before args s = true) (hstat : (Cond.static y).before args s = true) (hinit : (Cond.initialized y.cls).before args s = true)
    (hcode : (Cond.codeWith y bytes maxL ret hh).before args s = true) (hy : y.cls ≠ "java/lang/invoke/MethodHandle" ∧ y.cls ≠ "java/lang/invoke/VarHandle")
    {W9 : Nat} {Pre : Pt → Array Value → Prop} {Post : Pt → Array Value → Option Value → Pt → Prop} (hK : Back l R p e below s args y 3 W9 Pre Post)
    {g : JFrame} (hg : g.method = m) (hsize : g.locals.size = c.maxLocals) {argsL rest : List Value} (hlen : ∀ sig, parseMethodDescriptor y.desc = some sig → argsL.length = sig.parameters.length)
    (hstack : g.stack = argsL.reverse ++ rest) (hW : 2 * g.monitorRoom + (rest.map fun v => v.category).sum ≤ W9) (hdg : decode c.code g.pc = .ok (.invokestatic index, 3))
    (hpre : ∀ vm₁, s.WarmedH vm₁ → Pre ⟨T.setVm vm₁, locs, cells, slots⟩ argsL.toArray) :
    ∃ (v : Option Value) (vm₁ : Vm) (B : Pt), s.WarmedH vm₁ ∧ Stand p l e R s m args below meth c B.U B.locs B.cells B.slots ∧ Post ⟨T.setVm vm₁, locs, cells, slots⟩ argsL.toArray v B ∧
      ∀ target, Steps p.tables e below (B.U.setTop { g with pc := g.pc + 3, stack := v.toList ++ rest }) target → Steps p.tables e below (T.setTop g) target := by
  obtain ⟨mk, methM, cM, hnamed, hmethM, -, -, -, -, -, -, hsigM⟩ := Cond.codeWith_spec hcode
  have hstatic : methM.isStatic = true := Cond.static_spec hnamed hmethM hstat
  obtain ⟨kP, hkP, -⟩ := className_of_methodNamed hnamed
  have hinitP : kP.init = .initialized := Cond.initialized_spec (findClass_of_methodNamed hnamed) hkP hinit
  obtain ⟨vm₁, X₁, hstep₁⟩ := X.invokestatic hexec hown hlink hnamed hmethM hstatic hkP hinitP hy (g := g) hg (argsL := argsL) (rest := rest) (hlen _ hsigM) hstack hdg
  obtain ⟨v, B, X', hpost, hsteps⟩ := hK m meth c ⟨T.setVm vm₁, locs, cells, slots⟩ { g with stack := rest } (.invokestatic index) mk argsL.toArray X₁ hg hsize hdg hW (X₁.named hnamed) (hpre vm₁ X₁.warmed)
  exact ⟨v, vm₁, B, X₁.warmed, X', hpost, fun target h => hstep₁ _ fun acts => by rw [doInvoke_state]; exact hsteps.trans h⟩
theorem vx_runSW {y : MethodName} {bytes cc : ByteArray} {maxL nL mc ms n index : Nat} {ret : Option FieldType} {hh : List (Nat × Nat × Nat × Nat)} {ws : List Cond} {rm : Room} {Pc : Array Value → State → Prop} {Qc : Array Value → State → Outcome → State → Prop} {free : Addr → Prop} {Ts : List Cond} {own : String} {As rest : List Value} {g : JFrame}
    (S : CallFix p m c cc nL s args Ts own) (hM : Met l y ws rm Pc Qc mc ms free) (cw : vx_CSW R s args own index y bytes maxL ret hh ws rm mc ms n) (hp : PreS s H Pc As)
    (hg : g.method = m) (hn : As.length = n) (hsize : g.locals.size = nL) (hstack : g.stack = As.reverse ++ rest) (hW : 2 * g.monitorRoom + (rest.map fun v => v.category).sum ≤ 8) (hdg : decode cc g.pc = .ok (.invokestatic index, 3)) (hf : cells + mc ≤ R.cells ∧ slots + ms ≤ R.slots) :
    va_Run p l e R s m args below meth c H locs cells slots mc ms g rest (Qc As.toArray) (free) := by
  obtain ⟨⟨hrc, hrs, hfr, hlo, hws, hcw⟩, hcode, hini, hy, hlen, hl, hstt⟩ := cw
  have hK : Back l R p e below s args y 3 8 (PreOf R mc ms Pc) (PostOf Qc mc ms free) := va_backW (hh := hh) (bytes := bytes) (maxL := maxL) (ret := ret) hM hp.1 hrc hrs hfr hlo hws hcw (fun a' U hW => word_at hW (Or.inl (by first | rfl | simp [Cond.onTables, Cond.keeps, Cond.steady])) hini)
  obtain ⟨hx, hb, hml, ho, -⟩ := S
  intro T hT X
  obtain ⟨v, vm₁, ⟨U', l2, c2, s2⟩, hW₁, X', ⟨g', mk, t, L, e1, e2, hq, h1, hL, h2, h3⟩, st⟩ := vx_callSW X hx (hh := hh) (bytes := bytes) (maxL := maxL) (ret := ret) ho hl hstt hini hcode hy hK hg (hsize.trans hml.symm) (argsL := As) (rest := rest) (fun sig h => hn.trans (hlen sig h)) hstack hW (by rw [hb]; exact hdg)
    (fun vm₁ hW₁ => ⟨hf.1, hf.2, hp.2 (T.setVm vm₁) hT hW₁⟩)
  dsimp only [Pt.U, Pt.locs, Pt.cells, Pt.slots] at X' e1 e2 h1 h2 h3 st
  subst h1; subst h2; subst h3
  exact ⟨v, (T.setVm vm₁).calling g' mk As.toArray, t, U', L, hT, X', hL, e1, e2, hq, st⟩
/-- not caught here, past rows that name other classes: it goes on to the caller -/
theorem vx_outP {p : Program} {l : Launch} {e : Env} {R : Room} {s : State} {m : MethodId} {args : Array Value} {below : List Frame} {meth : Method} {c : Code} {H : Heap} {locs : List Loc} {cells slots : Nat} {free : Addr → Prop} {ls : Array Slot} {rest : List Value} {Qc : Array Value → State → Outcome → State → Prop} {XC : String → State → State → Prop}
    {pc : Nat} {own E : String} {ce : Cell} {q : Addr} {mc ms : Nat} (hown : s.vm.findClass own = some m.cls) (hlocks : meth.locks = false)
    (hpass : ∀ z ∈ c.exceptionTable.toList, covers z pc = false ∨ (z.catchType ≠ 0 ∧ ∃ nm : String, (Cond.classLink own z.catchType nm).before args s = true ∧ va_Nc E nm s)) (hcell : H[q]? = some ce) (hv : ce.vm = .none) (hcl : s.vm.findClass E = some ce.cls)
    (hx : ∀ t : State, t.heap = H → s.vm.Alike t.vm → XC E s t) (hf : ∀ z ∈ locs, free z.base) (hc : cells ≤ mc) (hs : slots ≤ ms) :
    vx_W p l e R s m args below meth c H locs cells slots (vx_MQ below Qc XC args s mc ms free) (F0 m pc ls rest) q := by
  intro T hT X
  have hpl : e.platform.magicAccessors = ({} : Platform).magicAccessors := by rw [X.admits.platform]
  obtain ⟨vm', hW', X', st⟩ := X.outThrough hlocks q (g := F0 m pc ls rest) rfl rfl rfl (cell := ce) (by rw [hT]; exact hcell) (by rw [hv]; rfl)
    (by obtain ⟨k9, h9, -⟩ := Vm.findClass_spec hcl; exact ⟨k9, h9⟩) (fun z hz => by
      rcases hpass z hz with h | ⟨hz0, nm, hl1, hn1⟩
      · exact Or.inl h
      · obtain ⟨c6, hc6, hcl6⟩ := Cond.classLink_spec hown hl1 e.platform hpl
        obtain ⟨a8, b8, h1, h2, h3⟩ := hn1
        cases Option.some.inj (h1.symm.trans hcl)
        cases Option.some.inj (h2.symm.trans hc6)
        exact Or.inr ⟨hz0, _, hcl6, h3⟩)
  obtain ⟨g₀, hfr⟩ := X'.frames_eq
  have hcell9 : ((T.setVm vm').setFrames (.throwing q :: below)).heap[q]? = some ce := by
    show T.heap[q]? = some ce
    rw [hT]; exact hcell
  have hend : Ended ((T.setVm vm').setFrames (.throwing q :: below)) below (.threw q) := State.frames_setFrames _ (State.cur_lt_of_frames hfr)
  refine ⟨(T.setVm vm').setFrames (.throwing q :: below), ?_, .threw q, X'.here.running, hend, Or.inr ⟨q, rfl, E, ce, locs, hx _ hT (X'.ends _).1.alike, hcell9, hv, hcl, (X'.ends _).1, (X'.ends _).2.mono hc hs, hf⟩⟩
  rw [X.pushThrowing_eq]
  exact st
/-- a thing of a world lies in the heap -/
theorem vx_lt {D : va_G} {cl : List vw_C} {ws : va_W} {H1 : Heap} (h : va_P D cl ws H1) {k : Nat} {q : Nat × va_E} (hk : ws[k]? = some q) : q.1 < H1.size := (h k q hk).lt
end VXS
/-! ===== END ===== -/
/-! ===== BEGIN methods with a table of their own: called by a name, returning or throwing ===== -/
section VXH
/-! vx_backW, vx_callVX, vx_callSX, vx_callVW, vx_runVW, vx_runVX, vx_runSX, vx_ofWH follow the same proofs as their sisters above (Free/Laws.lean, Shelf42/LK1.lean); vx_outP calls Shelf42/NT130.lean (outThrough). -/
section
variable {l : Launch} {R : Room} {p : Program} {e : Env} {below : List Frame} {s : State} {sargs : Array Value} {y : MethodName} {len W9 : Nat}
theorem vx_backW {ws : List Cond} {rm : Room} {Pc : Array Value → State → Prop} {Qc : Array Value → State → Outcome → State → Prop} {XC : String → State → State → Prop} {mc ms : Nat} {free : Addr → Prop} {bytes : ByteArray} {maxL : Nat} {ret : Option FieldType} {hh : List (Nat × Nat × Nat × Nat)}
    (hM : vx_Met l y ws rm Pc Qc XC mc ms free) (hblind : FrameBlind Pc) (hrc : rm.cells = mc) (hrs : rm.slots = ms)
    (hframes : rm.frames + 1 ≤ R.frames) (hlocals : W9 + (maxL + 11) + rm.locals ≤ R.locals)
    (hws : ∀ w ∈ ws, ∀ a' U, s.WarmedH U.vm → w.before a' U = true) (hcode : Cond.codeWith y bytes maxL ret hh ∈ ws) (hinit : ∀ a' U, s.WarmedH U.vm → (Cond.initialized y.cls).before a' U = true) :
    vx_Back l R p e below s sargs y len W9 (PreOf R mc ms Pc) (PostOf Qc mc ms free) (vx_Post XC mc ms free) := by
  intro m meth c A g ig mk a X hg hsize hdg hW hn hp
  have h1 : (headSpec ws rm).pre.before a A.U = true := atoms_intro fun w hw => hws w hw _ _ X.warmed
  have h2 : (Cond.codeWith y bytes maxL ret hh).before a A.U = true := hws _ hcode _ _ X.warmed
  have h3 : (Cond.initialized y.cls).before a A.U = true := hinit _ _ X.warmed
  have h4 : A.cells + (headSpec ws rm).room.cells ≤ R.cells := by rw [show (headSpec ws rm).room.cells = mc from hrc]; exact hp.1
  have h5 : A.slots + (headSpec ws rm).room.slots ≤ R.slots := by rw [show (headSpec ws rm).room.slots = ms from hrs]; exact hp.2.1
  have hPc : Pc a (A.U.calling g mk a) := hblind _ _ _ _ hp.2.2
  obtain ⟨U, Ls, c0, s0⟩ := A
  dsimp only [Pt.U, Pt.locs, Pt.cells, Pt.slots] at h1 h2 h3 h4 h5 X hn hPc ⊢
  obtain ⟨m9, methY, cY, hn9, hmY, hcY, -, hlY, -⟩ := Cond.codeWith_spec h2
  cases Option.some.inj (hn9.symm.trans hn)
  obtain ⟨kY, hkY, -⟩ := className_of_methodNamed hn
  have hinitY : kY.init = .initialized := Cond.initialized_spec (findClass_of_methodNamed hn) hkY h3
  have h : At U g.method c below := by rw [hg]; exact X.here
  have hlocals9 : W9 + (maxL + 11) + (headSpec ws rm).room.locals ≤ R.locals := hlocals
  have happ : (headSpec ws rm).appliesLoose y e.platform (U.calling g mk a) = true :=
    Spec.appliesLoose_calling (g := g) h hdg hn hkY hinitY
      (X.room_calling (g := g) (R' := (headSpec ws rm).room) hsize hmY hcY hframes (by rw [hlY]; omega) h4 h5) h1
  obtain ⟨mid, hmid⟩ := h.above
  have hfr : (U.setTop g).frames = (.java g :: mid) ++ below := by rw [State.frames_setTop' g h.top, hmid]; rfl
  obtain ⟨o, s₂, hsteps, -, hend, hq⟩ := Steps.callFree hM p X.admits X.cas X.clock (acts := []) hfr happ hPc trivial
  have hq' : vx_Q Qc XC mc ms free a (U.calling g mk a) o s₂ := hq
  rw [State.frames_setTop' g h.top] at hend
  obtain ⟨g₀, hg0⟩ := Option.isSome_iff_exists.mp h.top
  obtain ⟨r, hr⟩ := State.topJava?_eq_some.mp hg0
  have hr' : (({ U with heap := s₂.heap, slotsUsed := s₂.slotsUsed } : State).setVm s₂.vm).frames = .java g₀ :: r := hr
  rcases hq' with ⟨hqc, L, hfe, hL⟩ | ⟨q, rfl, E, ce, L, hx, hce, hcv, hcl, hW₂, hsm, hL⟩
  · obtain ⟨⟨v, rfl⟩, hW₂, e2, q2, q3, q4, q5, q6⟩ := id hfe
    have e3 : s₂ = ({ (U.calling g mk a).setFrames s₂.frames with heap := s₂.heap, slotsUsed := s₂.slotsUsed } : State).setVm s₂.vm := by
      have : s₂ = ({ s₂ with vm := (U.calling g mk a).vm } : State).setVm s₂.vm := rfl
      rw [e2] at this
      exact this
    obtain ⟨c₂, i₂, len₂, hc₂, hd₂, hf₂⟩ := hend
    have hW' : U.WarmedH s₂.vm := hW₂
    have hcc : c₂ = c := by
      have h1 : s₂.code? g.method = U.code? g.method := by
        rw [State.code?_eq, State.code?_eq, hW'.alike.method?]
      exact Option.some.inj (hc₂.symm.trans (h1.trans h.code))
    subst hcc
    have hlen : len₂ = len := by rw [hdg] at hd₂; cases hd₂; rfl
    subst hlen
    have hs₂ : s₂ = (({ U with heap := s₂.heap, slotsUsed := s₂.slotsUsed } : State).setVm s₂.vm).setTop { g with pc := g.pc + len₂, stack := v.toList ++ g.stack } := by
      refine e3.trans ?_
      rw [hf₂, State.calling_eq h.top, State.setFrames_setFrames, State.setTop_of_frames _ hr', hr]
      rfl
    have hsame : U.sameButNew ({ U with heap := s₂.heap, slotsUsed := s₂.slotsUsed } : State) L mc ms := by
      refine ⟨?_, q2, q3, q4, q5, q6⟩
      obtain ⟨t, ht, -⟩ := State.frames_cons hr
      show ({ U with heap := s₂.heap, slotsUsed := s₂.slotsUsed } : State) = { U.setFrames U.frames with heap := s₂.heap, slotsUsed := s₂.slotsUsed }
      rw [State.setFrames_self ht]
    subst hg
    refine Or.inl ⟨v, ⟨(({ U with heap := s₂.heap, slotsUsed := s₂.slotsUsed } : State).setVm s₂.vm), Ls ++ L, c0 + mc, s0 + ms⟩,
      ⟨X.admits, X.cas, X.clock, X.frames, X.room, X.hears, X.method, X.code, (X.here.setHeapUsed s₂.heap s₂.slotsUsed).setVm hW'.alike, X.tail, State.WarmedH.trans X.warmed hW', X.limits, X.bytes, X.same.trans (hsame.setVm s.vm)⟩,
      ⟨g, mk, s₂, L, rfl, rfl, hqc, rfl, hL, rfl, rfl⟩, ?_⟩
    show Steps p.tables e below _ ((({ U with heap := s₂.heap, slotsUsed := s₂.slotsUsed } : State).setVm s₂.vm).setTop { g with pc := g.pc + len₂, stack := v.toList ++ g.stack })
    rw [← hs₂]
    exact hsteps
  · obtain ⟨e2, q2, q3, q4, q5, q6⟩ := id hsm
    have e3 : s₂ = ({ (U.calling g mk a).setFrames s₂.frames with heap := s₂.heap, slotsUsed := s₂.slotsUsed } : State).setVm s₂.vm := by
      have : s₂ = ({ s₂ with vm := (U.calling g mk a).vm } : State).setVm s₂.vm := rfl
      rw [e2] at this
      exact this
    have hf₂ : s₂.frames = .throwing q :: .java g :: U.frames.tail := hend
    have hW' : U.WarmedH s₂.vm := hW₂
    have hs₂ : s₂ = ((({ U with heap := s₂.heap, slotsUsed := s₂.slotsUsed } : State).setVm s₂.vm).setTop g).pushFrame (.throwing q) := by
      refine e3.trans ?_
      rw [hf₂, State.calling_eq h.top, State.setFrames_setFrames, State.pushFrame, State.frames_setTop _ hr', State.setTop_of_frames _ hr', State.setFrames_setFrames, hr]
      rfl
    have hsame : U.sameButNew ({ U with heap := s₂.heap, slotsUsed := s₂.slotsUsed } : State) L mc ms := by
      refine ⟨?_, q2, q3, q4, q5, q6⟩
      obtain ⟨t, ht, -⟩ := State.frames_cons hr
      show ({ U with heap := s₂.heap, slotsUsed := s₂.slotsUsed } : State) = { U.setFrames U.frames with heap := s₂.heap, slotsUsed := s₂.slotsUsed }
      rw [State.setFrames_self ht]
    subst hg
    refine Or.inr ⟨q, ⟨(({ U with heap := s₂.heap, slotsUsed := s₂.slotsUsed } : State).setVm s₂.vm), Ls ++ L, c0 + mc, s0 + ms⟩,
      ⟨X.admits, X.cas, X.clock, X.frames, X.room, X.hears, X.method, X.code, (X.here.setHeapUsed s₂.heap s₂.slotsUsed).setVm hW'.alike, X.tail, State.WarmedH.trans X.warmed hW', X.limits, X.bytes, X.same.trans (hsame.setVm s.vm)⟩,
      ⟨g, mk, s₂, L, E, ce, rfl, rfl, hx, hce, hcv, hcl, rfl, hL, rfl, rfl⟩, ?_⟩
    show Steps p.tables e below _ (((({ U with heap := s₂.heap, slotsUsed := s₂.slotsUsed } : State).setVm s₂.vm).setTop g).pushFrame (.throwing q))
    rw [← hs₂]
    exact hsteps
end
variable {p : Program} {l : Launch} {e : Env} {R : Room} {s : State} {m : MethodId} {args : Array Value} {below : List Frame} {meth : Method} {c : Code} {T : State} {H : Heap} {locs : List Loc} {cells slots : Nat}
theorem vx_callVX (X : Stand p l e R s m args below meth c T locs cells slots) (hexec : p.tables.exec = Jvm.exec) {own C : String} {index : Nat} {y : MethodName} {bytes : ByteArray} {maxL : Nat} {ret : Option FieldType} {hh : List (Nat × Nat × Nat × Nat)}
    (hown : s.vm.findClass own = some m.cls) (hlink : (Cond.methodLink own index y).before args s = true) (hinst : (Cond.instanceMethod y).before args s = true) (hsel : (Cond.selects C y y).before args s = true)
    (hcode : (Cond.codeWith y bytes maxL ret hh).before args s = true) (hy : y.cls ≠ "java/lang/invoke/MethodHandle" ∧ y.cls ≠ "java/lang/invoke/VarHandle")
    {W9 : Nat} {Pre : Pt → Array Value → Prop} {Post : Pt → Array Value → Option Value → Pt → Prop} {PostX : Pt → Array Value → Addr → Pt → Prop} (hK : vx_Back l R p e below s args y 3 W9 Pre Post PostX)
    {b : Addr} {cellB : Cell} (hcell : T.heap[b]? = some cellB) (hobj : cellB.vm.isStatics = false) (hcls : s.vm.findClass C = some cellB.cls)
    {g : JFrame} (hg : g.method = m) (hsize : g.locals.size = c.maxLocals) {argsL rest : List Value} (hlen : ∀ sig, parseMethodDescriptor y.desc = some sig → argsL.length = sig.parameters.length)
    (hstack : g.stack = argsL.reverse ++ .ref b :: rest) (hW : 2 * g.monitorRoom + (rest.map fun v => v.category).sum ≤ W9) (hdg : decode c.code g.pc = .ok (.invokevirtual index, 3))
    (hpre : ∀ vm₁, s.WarmedH vm₁ → Pre ⟨T.setVm vm₁, locs, cells, slots⟩ (Value.ref b :: argsL).toArray) :
    (∃ (v : Option Value) (vm₁ : Vm) (B : Pt), s.WarmedH vm₁ ∧ Stand p l e R s m args below meth c B.U B.locs B.cells B.slots ∧ Post ⟨T.setVm vm₁, locs, cells, slots⟩ (Value.ref b :: argsL).toArray v B ∧
      ∀ target, Steps p.tables e below (B.U.setTop { g with pc := g.pc + 3, stack := v.toList ++ rest }) target → Steps p.tables e below (T.setTop g) target) ∨
    (∃ (q : Addr) (vm₁ : Vm) (B : Pt), s.WarmedH vm₁ ∧ Stand p l e R s m args below meth c B.U B.locs B.cells B.slots ∧ PostX ⟨T.setVm vm₁, locs, cells, slots⟩ (Value.ref b :: argsL).toArray q B ∧
      Steps p.tables e below (T.setTop g) ((B.U.setTop { g with stack := rest }).pushFrame (.throwing q))) := by
  obtain ⟨mk, methM, hnamed, hmethM, hstM, habM⟩ := Cond.instanceMethod_spec hinst
  obtain ⟨m8, methM', cM, hn8, hmethM', -, -, -, -, -, -, hsigM⟩ := Cond.codeWith_spec hcode
  cases Option.some.inj (hn8.symm.trans hnamed)
  cases hmethM.symm.trans hmethM'
  obtain ⟨c2, r2, m2, q1, q2, q3, q4, kP, hkP, hkPi⟩ := Cond.selects_spec hsel
  cases hcls.symm.trans q1
  cases (State.methodFound?_of_named hnamed hy).symm.trans q2
  cases hnamed.symm.trans q3
  have hselP : selectMethod e.platform s.vm cellB.cls mk = .method mk := by rw [Launch.admits_selectMethod X.admits]; exact q4
  obtain ⟨vm₁, X₁, hstep₁⟩ := X.invokevirtual hexec hown hlink hnamed hmethM hstM hkP hkPi hy (a := b) (cell := cellB) hcell
    (fun z h => by rw [h] at hobj; cases hobj) hselP hmethM habM hkP hkPi (g := g) hg (argsL := argsL) (rest := rest) (hlen _ hsigM) hstack hdg
  rcases hK m meth c ⟨T.setVm vm₁, locs, cells, slots⟩ { g with stack := rest } (.invokevirtual index) mk (Value.ref b :: argsL).toArray X₁ hg hsize hdg hW (X₁.named hnamed) (hpre vm₁ X₁.warmed) with ⟨v, B, X', hpost, hsteps⟩ | ⟨q, B, X', hpost, hsteps⟩
  · exact Or.inl ⟨v, vm₁, B, X₁.warmed, X', hpost, fun target h => hstep₁ _ fun acts => by rw [doInvoke_state]; exact hsteps.trans h⟩
  · exact Or.inr ⟨q, vm₁, B, X₁.warmed, X', hpost, hstep₁ _ fun acts => by rw [doInvoke_state]; exact hsteps⟩
theorem vx_callSX (X : Stand p l e R s m args below meth c T locs cells slots) (hexec : p.tables.exec = Jvm.exec) {own : String} {index : Nat} {y : MethodName} {bytes : ByteArray} {maxL : Nat} {ret : Option FieldType} {hh : List (Nat × Nat × Nat × Nat)}
    (hown : s.vm.findClass own = some m.cls) (hlink : (Cond.methodLink own index y).before args s = true) (hstat : (Cond.static y).before args s = true) (hinit : (Cond.initialized y.cls).before args s = true)
    (hcode : (Cond.codeWith y bytes maxL ret hh).before args s = true) (hy : y.cls ≠ "java/lang/invoke/MethodHandle" ∧ y.cls ≠ "java/lang/invoke/VarHandle")
    {W9 : Nat} {Pre : Pt → Array Value → Prop} {Post : Pt → Array Value → Option Value → Pt → Prop} {PostX : Pt → Array Value → Addr → Pt → Prop} (hK : vx_Back l R p e below s args y 3 W9 Pre Post PostX)
    {g : JFrame} (hg : g.method = m) (hsize : g.locals.size = c.maxLocals) {argsL rest : List Value} (hlen : ∀ sig, parseMethodDescriptor y.desc = some sig → argsL.length = sig.parameters.length)
    (hstack : g.stack = argsL.reverse ++ rest) (hW : 2 * g.monitorRoom + (rest.map fun v => v.category).sum ≤ W9) (hdg : decode c.code g.pc = .ok (.invokestatic index, 3))
    (hpre : ∀ vm₁, s.WarmedH vm₁ → Pre ⟨T.setVm vm₁, locs, cells, slots⟩ argsL.toArray) :
    (∃ (v : Option Value) (vm₁ : Vm) (B : Pt), s.WarmedH vm₁ ∧ Stand p l e R s m args below meth c B.U B.locs B.cells B.slots ∧ Post ⟨T.setVm vm₁, locs, cells, slots⟩ argsL.toArray v B ∧
      ∀ target, Steps p.tables e below (B.U.setTop { g with pc := g.pc + 3, stack := v.toList ++ rest }) target → Steps p.tables e below (T.setTop g) target) ∨
    (∃ (q : Addr) (vm₁ : Vm) (B : Pt), s.WarmedH vm₁ ∧ Stand p l e R s m args below meth c B.U B.locs B.cells B.slots ∧ PostX ⟨T.setVm vm₁, locs, cells, slots⟩ argsL.toArray q B ∧
      Steps p.tables e below (T.setTop g) ((B.U.setTop { g with stack := rest }).pushFrame (.throwing q))) := by
  obtain ⟨mk, methM, cM, hnamed, hmethM, -, -, -, -, -, -, hsigM⟩ := Cond.codeWith_spec hcode
  have hstatic : methM.isStatic = true := Cond.static_spec hnamed hmethM hstat
  obtain ⟨kP, hkP, -⟩ := className_of_methodNamed hnamed
  have hinitP : kP.init = .initialized := Cond.initialized_spec (findClass_of_methodNamed hnamed) hkP hinit
  obtain ⟨vm₁, X₁, hstep₁⟩ := X.invokestatic hexec hown hlink hnamed hmethM hstatic hkP hinitP hy (g := g) hg (argsL := argsL) (rest := rest) (hlen _ hsigM) hstack hdg
  rcases hK m meth c ⟨T.setVm vm₁, locs, cells, slots⟩ { g with stack := rest } (.invokestatic index) mk argsL.toArray X₁ hg hsize hdg hW (X₁.named hnamed) (hpre vm₁ X₁.warmed) with ⟨v, B, X', hpost, hsteps⟩ | ⟨q, B, X', hpost, hsteps⟩
  · exact Or.inl ⟨v, vm₁, B, X₁.warmed, X', hpost, fun target h => hstep₁ _ fun acts => by rw [doInvoke_state]; exact hsteps.trans h⟩
  · exact Or.inr ⟨q, vm₁, B, X₁.warmed, X', hpost, hstep₁ _ fun acts => by rw [doInvoke_state]; exact hsteps⟩
theorem vx_callVW (X : Stand p l e R s m args below meth c T locs cells slots) (hexec : p.tables.exec = Jvm.exec) {own C : String} {index : Nat} {y : MethodName} {bytes : ByteArray} {maxL : Nat} {ret : Option FieldType} {hh : List (Nat × Nat × Nat × Nat)}
    (hown : s.vm.findClass own = some m.cls) (hlink : (Cond.methodLink own index y).before args s = true) (hinst : (Cond.instanceMethod y).before args s = true) (hsel : (Cond.selects C y y).before args s = true)
    (hcode : (Cond.codeWith y bytes maxL ret hh).before args s = true) (hy : y.cls ≠ "java/lang/invoke/MethodHandle" ∧ y.cls ≠ "java/lang/invoke/VarHandle")
    {W9 : Nat} {Pre : Pt → Array Value → Prop} {Post : Pt → Array Value → Option Value → Pt → Prop} (hK : Back l R p e below s args y 3 W9 Pre Post)
    {b : Addr} {cellB : Cell} (hcell : T.heap[b]? = some cellB) (hobj : cellB.vm.isStatics = false) (hcls : s.vm.findClass C = some cellB.cls)
    {g : JFrame} (hg : g.method = m) (hsize : g.locals.size = c.maxLocals) {argsL rest : List Value} (hlen : ∀ sig, parseMethodDescriptor y.desc = some sig → argsL.length = sig.parameters.length)
    (hstack : g.stack = argsL.reverse ++ .ref b :: rest) (hW : 2 * g.monitorRoom + (rest.map fun v => v.category).sum ≤ W9) (hdg : decode c.code g.pc = .ok (.invokevirtual index, 3))
    (hpre : ∀ vm₁, s.WarmedH vm₁ → Pre ⟨T.setVm vm₁, locs, cells, slots⟩ (Value.ref b :: argsL).toArray) :
    ∃ (v : Option Value) (vm₁ : Vm) (B : Pt), s.WarmedH vm₁ ∧ Stand p l e R s m args below meth c B.U B.locs B.cells B.slots ∧ Post ⟨T.setVm vm₁, locs, cells, slots⟩ (Value.ref b :: argsL).toArray v B ∧
      ∀ target, Steps p.tables e below (B.U.setTop { g with pc := g.pc + 3, stack := v.toList ++ rest }) target → Steps p.tables e below (T.setTop g) target := by
  obtain ⟨mk, methM, hnamed, hmethM, hstM, habM⟩ := Cond.instanceMethod_spec hinst
  obtain ⟨m8, methM', cM, hn8, hmethM', -, -, -, -, -, -, hsigM⟩ := Cond.codeWith_spec hcode
  cases Option.some.inj (hn8.symm.trans hnamed)
  cases hmethM.symm.trans hmethM'
  obtain ⟨c2, r2, m2, q1, q2, q3, q4, kP, hkP, hkPi⟩ := Cond.selects_spec hsel
  cases hcls.symm.trans q1
  cases (State.methodFound?_of_named hnamed hy).symm.trans q2
  cases hnamed.symm.trans q3
  have hselP : selectMethod e.platform s.vm cellB.cls mk = .method mk := by rw [Launch.admits_selectMethod X.admits]; exact q4
  obtain ⟨vm₁, X₁, hstep₁⟩ := X.invokevirtual hexec hown hlink hnamed hmethM hstM hkP hkPi hy (a := b) (cell := cellB) hcell
    (fun z h => by rw [h] at hobj; cases hobj) hselP hmethM habM hkP hkPi (g := g) hg (argsL := argsL) (rest := rest) (hlen _ hsigM) hstack hdg
  obtain ⟨v, B, X', hpost, hsteps⟩ := hK m meth c ⟨T.setVm vm₁, locs, cells, slots⟩ { g with stack := rest } (.invokevirtual index) mk (Value.ref b :: argsL).toArray X₁ hg hsize hdg hW (X₁.named hnamed) (hpre vm₁ X₁.warmed)
  exact ⟨v, vm₁, B, X₁.warmed, X', hpost, fun target h => hstep₁ _ fun acts => by rw [doInvoke_state]; exact hsteps.trans h⟩
abbrev vx_CVW (R : Room) (s : State) (args : Array Value) (own C : String) (index : Nat) (y : MethodName) (bytes : ByteArray) (maxL : Nat) (ret : Option FieldType) (hh : List (Nat × Nat × Nat × Nat)) (ws : List Cond) (rm : Room) (mc ms n : Nat) : Prop :=
  (rm.cells = mc ∧ rm.slots = ms ∧ rm.frames + 1 ≤ R.frames ∧ 8 + (maxL + 11) + rm.locals ≤ R.locals ∧ (∀ w ∈ ws, ∀ (a' : Array Value) (U : State), s.WarmedH U.vm → w.before a' U = true) ∧ Cond.codeWith y bytes maxL ret hh ∈ ws) ∧
  (Cond.codeWith y bytes maxL ret hh).before args s = true ∧ (Cond.initialized y.cls).before args s = true ∧ (y.cls ≠ "java/lang/invoke/MethodHandle" ∧ y.cls ≠ "java/lang/invoke/VarHandle") ∧
  (∀ sig, parseMethodDescriptor y.desc = some sig → n = sig.parameters.length) ∧ (Cond.methodLink own index y).before args s = true ∧ (Cond.instanceMethod y).before args s = true ∧ (Cond.selects C y y).before args s = true
theorem vx_cwVW {own C : String} {index maxL mc ms : Nat} {y : MethodName} {bytes : ByteArray} {ret : Option FieldType} {hh : List (Nat × Nat × Nat × Nat)} {Ts ws ws' : List Cond} {rm : Room} (n : Nat) (ht : ∀ w ∈ Ts, w.before args s = true) (hT : GoodIn Ts (wsV own index C y ws)) (hw : ws = Cond.codeWith y bytes maxL ret hh :: ws') (hrc : rm.cells = mc) (hrs : rm.slots = ms)
    (hd : y.cls = C ∧ y.cls ≠ "java/lang/invoke/MethodHandle" ∧ y.cls ≠ "java/lang/invoke/VarHandle" ∧ (parseMethodDescriptor y.desc).map (fun d => d.parameters.length) = some n) (hR : rm.frames + 1 ≤ R.frames ∧ 8 + (maxL + 11) + rm.locals ≤ R.locals) :
    vx_CVW R s args own C index y bytes maxL ret hh ws rm mc ms n := by
  obtain ⟨hC, hd⟩ := hd
  subst hC
  have ok : ∀ w ∈ wsV own index y.cls y ws, w.before args s = true := fun w h => ht w (hT w h).1
  have hG : GoodIn Ts ws := fun w h => hT w (by unfold wsV; exact List.mem_append_right _ h)
  have hc : Cond.codeWith y bytes maxL ret hh ∈ ws := by rw [hw]; exact List.mem_cons_self
  refine ⟨⟨hrc, hrs, hR.1, hR.2, pay_in ht hG, hc⟩, ht _ (hG _ hc).1, ok _ (by simp [wsV]), ⟨hd.1, hd.2.1⟩, fun sig h => ?_, ok _ (by simp [wsV]), ok _ (by simp [wsV]), ok _ (by simp [wsV])⟩
  have h2 := hd.2.2
  rw [h] at h2
  exact (Option.some.inj h2).symm
theorem vx_runVW {y : MethodName} {bytes cc : ByteArray} {maxL nL mc ms n index : Nat} {ret : Option FieldType} {hh : List (Nat × Nat × Nat × Nat)} {ws : List Cond} {rm : Room} {Pc : Array Value → State → Prop} {Qc : Array Value → State → Outcome → State → Prop} {free : Addr → Prop} {Ts : List Cond} {own C : String} {b : Addr} {As rest : List Value} {g : JFrame}
    (S : CallFix p m c cc nL s args Ts own) (hM : Met l y ws rm Pc Qc mc ms free) (cw : vx_CVW R s args own C index y bytes maxL ret hh ws rm mc ms n) (hp : PreV s H C b Pc As)
    (hg : g.method = m) (hn : As.length = n) (hsize : g.locals.size = nL) (hstack : g.stack = As.reverse ++ .ref b :: rest) (hW : 2 * g.monitorRoom + (rest.map fun v => v.category).sum ≤ 8) (hdg : decode cc g.pc = .ok (.invokevirtual index, 3)) (hf : cells + mc ≤ R.cells ∧ slots + ms ≤ R.slots) :
    va_Run p l e R s m args below meth c H locs cells slots mc ms g rest (Qc (Value.ref b :: As).toArray) free := by
  obtain ⟨⟨hrc, hrs, hfr, hlo, hws, hcw⟩, hcode, hini, hy, hlen, hl, hin, hse⟩ := cw
  have hK : Back l R p e below s args y 3 8 (PreOf R mc ms Pc) (PostOf Qc mc ms free) := va_backW (hh := hh) (bytes := bytes) (maxL := maxL) (ret := ret) hM hp.1 hrc hrs hfr hlo hws hcw (fun a' U hW => word_at hW (Or.inl (by first | rfl | simp [Cond.onTables, Cond.keeps, Cond.steady])) hini)
  obtain ⟨hx, hb, hml, ho, -⟩ := S
  obtain ⟨-, ⟨cellB, hcB, hoB, hclB⟩, hPc⟩ := hp
  intro T hT X
  obtain ⟨v, vm₁, ⟨U', l2, c2, s2⟩, hW₁, X', ⟨g', mk, t, L, e1, e2, hq, h1, hL, h2, h3⟩, st⟩ := vx_callVW X hx (C := C) (hh := hh) (bytes := bytes) (maxL := maxL) (ret := ret) ho hl hin hse hcode hy hK (by rw [hT]; exact hcB) hoB hclB hg (hsize.trans hml.symm) (argsL := As) (rest := rest) (fun sig h => hn.trans (hlen sig h)) hstack hW (by rw [hb]; exact hdg)
    (fun vm₁ hW₁ => ⟨hf.1, hf.2, hPc (T.setVm vm₁) hT hW₁⟩)
  dsimp only [Pt.U, Pt.locs, Pt.cells, Pt.slots] at X' e1 e2 h1 h2 h3 st
  subst h1; subst h2; subst h3
  exact ⟨v, (T.setVm vm₁).calling g' mk (Value.ref b :: As).toArray, t, U', L, hT, X', hL, e1, e2, hq, st⟩
section
variable {y : MethodName} {bytes cc : ByteArray} {maxL nL mc ms n index : Nat} {ret : Option FieldType} {ws : List Cond} {rm : Room} {Pc : Array Value → State → Prop} {Qc : Array Value → State → Outcome → State → Prop} {XC : String → State → State → Prop} {free : Addr → Prop} {Ts : List Cond} {own C : String} {b : Addr} {As rest : List Value} {g : JFrame}
theorem vx_runVX {hh : List (Nat × Nat × Nat × Nat)} (S : CallFix p m c cc nL s args Ts own) (hM : vx_Met l y ws rm Pc Qc XC mc ms free) (cw : vx_CVW R s args own C index y bytes maxL ret hh ws rm mc ms n) (hp : PreV s H C b Pc As)
    (hg : g.method = m) (hn : As.length = n) (hsize : g.locals.size = nL) (hstack : g.stack = As.reverse ++ .ref b :: rest) (hW : 2 * g.monitorRoom + (rest.map fun v => v.category).sum ≤ 8) (hdg : decode cc g.pc = .ok (.invokevirtual index, 3)) (hf : cells + mc ≤ R.cells ∧ slots + ms ≤ R.slots) :
    vx_Run p l e R s m args below meth c H locs cells slots mc ms g rest (Qc (Value.ref b :: As).toArray) XC free := by
  obtain ⟨⟨hrc, hrs, hfr, hlo, hws, hcw⟩, hcode, hini, hy, hlen, hl, hin, hse⟩ := cw
  have hK : vx_Back l R p e below s args y 3 8 (PreOf R mc ms Pc) (PostOf Qc mc ms free) (vx_Post XC mc ms free) := vx_backW (hh := hh) (bytes := bytes) (maxL := maxL) (ret := ret) hM hp.1 hrc hrs hfr hlo hws hcw (fun a' U hW => word_at hW (Or.inl (by first | rfl | simp [Cond.onTables, Cond.keeps, Cond.steady])) hini)
  obtain ⟨hx, hb, hml, ho, -⟩ := S
  obtain ⟨-, ⟨cellB, hcB, hoB, hclB⟩, hPc⟩ := hp
  intro T hT X
  rcases vx_callVX X hx (C := C) (hh := hh) (bytes := bytes) (maxL := maxL) (ret := ret) ho hl hin hse hcode hy hK (by rw [hT]; exact hcB) hoB hclB hg (hsize.trans hml.symm) (argsL := As) (rest := rest) (fun sig h => hn.trans (hlen sig h)) hstack hW (by rw [hb]; exact hdg)
    (fun vm₁ hW₁ => ⟨hf.1, hf.2, hPc (T.setVm vm₁) hT hW₁⟩) with ⟨v, vm₁, ⟨U', l2, c2, s2⟩, hW₁, X', ⟨g', mk, t, L, e1, e2, hq, h1, hL, h2, h3⟩, st⟩ | ⟨q, vm₁, ⟨U', l2, c2, s2⟩, hW₁, X', ⟨g', mk, t, L, E, ce, e1, e2, hq, hce, hcv, hcl, h1, hL, h2, h3⟩, st⟩
  · dsimp only [Pt.U, Pt.locs, Pt.cells, Pt.slots] at X' e1 e2 h1 h2 h3 st
    subst h1; subst h2; subst h3
    exact Or.inl ⟨v, (T.setVm vm₁).calling g' mk (Value.ref b :: As).toArray, t, U', L, hT, X', hL, e1, e2, hq, st⟩
  · dsimp only [Pt.U, Pt.locs, Pt.cells, Pt.slots] at X' e1 e2 h1 h2 h3 st hcl
    subst h1; subst h2; subst h3
    exact Or.inr ⟨q, (T.setVm vm₁).calling g' mk (Value.ref b :: As).toArray, t, U', L, E, ce, hT, X', hL, e1, e2, hq, hce, hcv, vx_cls hW₁ hcl, st⟩
theorem vx_runSX {hh : List (Nat × Nat × Nat × Nat)} (S : CallFix p m c cc nL s args Ts own) (hM : vx_Met l y ws rm Pc Qc XC mc ms free) (cw : vx_CSW R s args own index y bytes maxL ret hh ws rm mc ms n) (hp : PreS s H Pc As)
    (hg : g.method = m) (hn : As.length = n) (hsize : g.locals.size = nL) (hstack : g.stack = As.reverse ++ rest) (hW : 2 * g.monitorRoom + (rest.map fun v => v.category).sum ≤ 8) (hdg : decode cc g.pc = .ok (.invokestatic index, 3)) (hf : cells + mc ≤ R.cells ∧ slots + ms ≤ R.slots) :
    vx_Run p l e R s m args below meth c H locs cells slots mc ms g rest (Qc As.toArray) XC free := by
  obtain ⟨⟨hrc, hrs, hfr, hlo, hws, hcw⟩, hcode, hini, hy, hlen, hl, hstt⟩ := cw
  have hK : vx_Back l R p e below s args y 3 8 (PreOf R mc ms Pc) (PostOf Qc mc ms free) (vx_Post XC mc ms free) := vx_backW (hh := hh) (bytes := bytes) (maxL := maxL) (ret := ret) hM hp.1 hrc hrs hfr hlo hws hcw (fun a' U hW => word_at hW (Or.inl (by first | rfl | simp [Cond.onTables, Cond.keeps, Cond.steady])) hini)
  obtain ⟨hx, hb, hml, ho, -⟩ := S
  intro T hT X
  rcases vx_callSX X hx (hh := hh) (bytes := bytes) (maxL := maxL) (ret := ret) ho hl hstt hini hcode hy hK hg (hsize.trans hml.symm) (argsL := As) (rest := rest) (fun sig h => hn.trans (hlen sig h)) hstack hW (by rw [hb]; exact hdg)
    (fun vm₁ hW₁ => ⟨hf.1, hf.2, hp.2 (T.setVm vm₁) hT hW₁⟩) with ⟨v, vm₁, ⟨U', l2, c2, s2⟩, hW₁, X', ⟨g', mk, t, L, e1, e2, hq, h1, hL, h2, h3⟩, st⟩ | ⟨q, vm₁, ⟨U', l2, c2, s2⟩, hW₁, X', ⟨g', mk, t, L, E, ce, e1, e2, hq, hce, hcv, hcl, h1, hL, h2, h3⟩, st⟩
  · dsimp only [Pt.U, Pt.locs, Pt.cells, Pt.slots] at X' e1 e2 h1 h2 h3 st
    subst h1; subst h2; subst h3
    exact Or.inl ⟨v, (T.setVm vm₁).calling g' mk As.toArray, t, U', L, hT, X', hL, e1, e2, hq, st⟩
  · dsimp only [Pt.U, Pt.locs, Pt.cells, Pt.slots] at X' e1 e2 h1 h2 h3 st hcl
    subst h1; subst h2; subst h3
    exact Or.inr ⟨q, (T.setVm vm₁).calling g' mk As.toArray, t, U', L, E, ce, hT, X', hL, e1, e2, hq, hce, hcv, vx_cls hW₁ hcl, st⟩
end
end VXH
theorem vx_ofWH {l : Launch} {y : MethodName} {ws ws' : List Cond} {rm : Room} {Pc : Array Value → State → Prop} {Qc : Array Value → State → Outcome → State → Prop} {XC : String → State → State → Prop} {mc ms : Nat} {free : Addr → Prop} {cc : ByteArray} {maxL : Nat} {ret : Option FieldType} {hh : List (Nat × Nat × Nat × Nat)}
    (hy : plainName y.cls = true) (hw : ws = Cond.codeWith y cc maxL ret hh :: ws')
    (body : ∀ p e s m args below meth c s₁, BodyLoose p l y (headSpec ws rm) cc maxL ret e s m args below meth c s₁ → c.maxLocals = maxL → Pc args s →
      W p l e (headSpec ws rm).room s m args below meth c s.heap [] 0 0 (vx_MQ below Qc XC args s mc ms free) (entryFrame m args maxL)) : vx_Met l y ws rm Pc Qc XC mc ms free := by
  refine MetFree.of_bodyS (code := cc) (maxLocals := maxL) (ret := ret) hy ?_ ?_
  · intro args s m h hn
    obtain ⟨m9, meth, c, hn9, h1, h2, h3, h4, -, h5, h6, -⟩ := Cond.codeWith_spec (atoms_spec (ws := ws) h _ (by rw [hw]; exact List.mem_cons_self))
    cases hn.symm.trans hn9
    exact ⟨meth, c, h1, h2, h3, h4, h5, h6⟩
  · intro p e s m args below meth c s₁ B hml hP _
    have hh0 : s₁.heap = s.heap := by rw [B.state]; rfl
    obtain ⟨t, a1, o, b1, b2, b3⟩ := body p e s m args below meth c s₁ B hml hP s₁ hh0 (Stand.of_body B)
    exact ⟨t, o, a1, b1, b2, b3⟩
/-! ===== END ===== -/
end
section
/-! ===== BEGIN printed: names, fields, word lists, decode rows ===== -/
def RX0 : String := "CourtMail$Case"
def TX0 : u_T := fun k => match k with
  | 0 => ("CourtMail$Case", "number", "I", true)
  | _ => ("CourtMail$Case", "seal", "I", false)
def tyX0 : Nat → FieldType := fun k => match k with
  | 0 => .int
  | _ => .int
abbrev wsX00 : List Cond := u_ws RX0 TX0 2
theorem nmX0 : ∀ a, a < 2 → ∀ b, b < 2 → a ≠ b → (TX0 a).2.1 ≠ (TX0 b).2.1 := by decide +kernel
theorem tyX0_ok : ∀ k, k < 2 → parseFieldDescriptor (TX0 k).2.2.1 = some (tyX0 k) := by decide +kernel
abbrev cX0_init : ByteArray := prog_2_method_1_code
def yX0_init : MethodName := ⟨RX0, "<init>", "(II)V"⟩
def RX1 : String := "CourtMail$Document"
def TX1 : u_T := fun k => match k with
  | 0 => ("CourtMail$Document", "ofCase", "LCourtMail$Case;", true)
  | 1 => ("CourtMail$Document", "text", "[B", true)
  | 2 => ("CourtMail$Document", "levels", "[B", true)
  | 3 => ("CourtMail$Document", "marks", "[B", true)
  | 4 => ("CourtMail$Document", "exhibits", "I", true)
  | 5 => ("CourtMail$Document", "holder", "LCourtMail$Person;", false)
  | 6 => ("CourtMail$Document", "backBy", "I", false)
  | _ => ("CourtMail$Document", "log", "I", false)
def tyX1 : Nat → FieldType := fun k => match k with
  | 0 => .object "CourtMail$Case"
  | 1 => .array .byte
  | 2 => .array .byte
  | 3 => .array .byte
  | 4 => .int
  | 5 => .object "CourtMail$Person"
  | 6 => .int
  | _ => .int
abbrev wsX10 : List Cond := u_ws RX1 TX1 8
theorem nmX1 : ∀ a, a < 8 → ∀ b, b < 8 → a ≠ b → (TX1 a).2.1 ≠ (TX1 b).2.1 := by decide +kernel
theorem tyX1_ok : ∀ k, k < 8 → parseFieldDescriptor (TX1 k).2.2.1 = some (tyX1 k) := by decide +kernel
abbrev cX1_init : ByteArray := prog_3_method_1_code
def yX1_init : MethodName := ⟨RX1, "<init>", "(LCourtMail$Case;LCourtMail$Draft;)V"⟩
abbrev cX1_firstOf : ByteArray := prog_3_method_2_code
def yX1_firstOf : MethodName := ⟨RX1, "firstOf", "([BI)[B"⟩
abbrev cX1_hasRange : ByteArray := prog_3_method_3_code
def yX1_hasRange : MethodName := ⟨RX1, "hasRange", "(II)Z"⟩
abbrev cX1_seenAt : ByteArray := prog_3_method_4_code
def yX1_seenAt : MethodName := ⟨RX1, "seenAt", "(II)I"⟩
abbrev cX1_countHidden : ByteArray := prog_3_method_5_code
def yX1_countHidden : MethodName := ⟨RX1, "countHidden", "(III)I"⟩
abbrev cX1_setLevels : ByteArray := prog_3_method_6_code
def yX1_setLevels : MethodName := ⟨RX1, "setLevels", "(III)I"⟩
abbrev cX1_countVeiled : ByteArray := prog_3_method_7_code
def yX1_countVeiled : MethodName := ⟨RX1, "countVeiled", "()I"⟩
abbrev cX1_greatestLevel : ByteArray := prog_3_method_8_code
def yX1_greatestLevel : MethodName := ⟨RX1, "greatestLevel", "()I"⟩
abbrev cX1_countMarked : ByteArray := prog_3_method_9_code
def yX1_countMarked : MethodName := ⟨RX1, "countMarked", "()I"⟩
abbrev cX1_writeLog : ByteArray := prog_3_method_10_code
def yX1_writeLog : MethodName := ⟨RX1, "writeLog", "(LCourtMail$Person;)V"⟩
abbrev cX1_bringBack : ByteArray := prog_3_method_11_code
def yX1_bringBack : MethodName := ⟨RX1, "bringBack", "()V"⟩
def RX2 : String := "CourtMail$Draft"
def TX2 : u_T := fun k => match k with
  | 0 => ("CourtMail$Draft", "text", "[B", true)
  | 1 => ("CourtMail$Draft", "levels", "[B", true)
  | 2 => ("CourtMail$Draft", "marks", "[B", true)
  | 3 => ("CourtMail$Draft", "length", "I", false)
  | 4 => ("CourtMail$Draft", "exhibits", "I", false)
  | 5 => ("CourtMail$Draft", "errorPlace", "I", false)
  | 6 => ("CourtMail$Draft", "veils", "[I", true)
  | 7 => ("CourtMail$Draft", "depth", "I", false)
  | 8 => ("CourtMail$Draft", "state", "I", false)
  | 9 => ("CourtMail$Draft", "run", "I", false)
  | 10 => ("CourtMail$Draft", "number", "I", false)
  | 11 => ("CourtMail$Draft", "numberAt", "I", false)
  | 12 => ("CourtMail$Draft", "ownExhibits", "I", false)
  | _ => ("CourtMail$Draft", "foreignAt", "I", false)
def tyX2 : Nat → FieldType := fun k => match k with
  | 0 => .array .byte
  | 1 => .array .byte
  | 2 => .array .byte
  | 3 => .int
  | 4 => .int
  | 5 => .int
  | 6 => .array .int
  | 7 => .int
  | 8 => .int
  | 9 => .int
  | 10 => .int
  | 11 => .int
  | 12 => .int
  | _ => .int
abbrev wsX20 : List Cond := u_ws RX2 TX2 14
theorem nmX2 : ∀ a, a < 14 → ∀ b, b < 14 → a ≠ b → (TX2 a).2.1 ≠ (TX2 b).2.1 := by decide +kernel
theorem tyX2_ok : ∀ k, k < 14 → parseFieldDescriptor (TX2 k).2.2.1 = some (tyX2 k) := by decide +kernel
abbrev cX2_init : ByteArray := prog_4_method_1_code
def yX2_init : MethodName := ⟨RX2, "<init>", "()V"⟩
abbrev cX2_take : ByteArray := prog_4_method_2_code
def yX2_take : MethodName := ⟨RX2, "take", "([III)I"⟩
abbrev cX2_start : ByteArray := prog_4_method_3_code
def yX2_start : MethodName := ⟨RX2, "start", "(I)V"⟩
abbrev cX2_isWhole : ByteArray := prog_4_method_4_code
def yX2_isWhole : MethodName := ⟨RX2, "isWhole", "()Z"⟩
abbrev cX2_takeByte : ByteArray := prog_4_method_5_code
def yX2_takeByte : MethodName := ⟨RX2, "takeByte", "(II)Z"⟩
abbrev cX2_takeBodyByte : ByteArray := prog_4_method_6_code
def yX2_takeBodyByte : MethodName := ⟨RX2, "takeBodyByte", "(II)Z"⟩
abbrev cX2_takePlain : ByteArray := prog_4_method_7_code
def yX2_takePlain : MethodName := ⟨RX2, "takePlain", "(I)Z"⟩
abbrev cX2_takeLevel : ByteArray := prog_4_method_8_code
def yX2_takeLevel : MethodName := ⟨RX2, "takeLevel", "(I)Z"⟩
abbrev cX2_takeColon : ByteArray := prog_4_method_9_code
def yX2_takeColon : MethodName := ⟨RX2, "takeColon", "(I)Z"⟩
abbrev cX2_takeNameByte : ByteArray := prog_4_method_10_code
def yX2_takeNameByte : MethodName := ⟨RX2, "takeNameByte", "(I)Z"⟩
abbrev cX2_takeNumberByte : ByteArray := prog_4_method_11_code
def yX2_takeNumberByte : MethodName := ⟨RX2, "takeNumberByte", "(II)Z"⟩
abbrev cX2_endNumber : ByteArray := prog_4_method_12_code
def yX2_endNumber : MethodName := ⟨RX2, "endNumber", "()V"⟩
abbrev cX2_isLetter : ByteArray := prog_4_method_13_code
def yX2_isLetter : MethodName := ⟨RX2, "isLetter", "(I)Z"⟩
abbrev cX2_put : ByteArray := prog_4_method_14_code
def yX2_put : MethodName := ⟨RX2, "put", "(II)V"⟩
def RX3 : String := "CourtMail$Exhibit"
def TX3 : u_T := fun k => match k with
  | 0 => ("CourtMail$Exhibit", "number", "I", true)
  | 1 => ("CourtMail$Exhibit", "ofCase", "LCourtMail$Case;", true)
  | 2 => ("CourtMail$Exhibit", "holder", "LCourtMail$Person;", false)
  | 3 => ("CourtMail$Exhibit", "lost", "Z", false)
  | 4 => ("CourtMail$Exhibit", "sealNumber", "I", false)
  | _ => ("CourtMail$Exhibit", "chain", "Ljava/util/ArrayList;", true)
def tyX3 : Nat → FieldType := fun k => match k with
  | 0 => .int
  | 1 => .object "CourtMail$Case"
  | 2 => .object "CourtMail$Person"
  | 3 => .boolean
  | 4 => .int
  | _ => .object "java/util/ArrayList"
abbrev wsX30 : List Cond := u_ws RX3 TX3 6
theorem nmX3 : ∀ a, a < 6 → ∀ b, b < 6 → a ≠ b → (TX3 a).2.1 ≠ (TX3 b).2.1 := by decide +kernel
theorem tyX3_ok : ∀ k, k < 6 → parseFieldDescriptor (TX3 k).2.2.1 = some (tyX3 k) := by decide +kernel
abbrev cX3_init : ByteArray := prog_5_method_1_code
def yX3_init : MethodName := ⟨RX3, "<init>", "(ILCourtMail$Case;)V"⟩
abbrev cX3_hasFullChain : ByteArray := prog_5_method_2_code
def yX3_hasFullChain : MethodName := ⟨RX3, "hasFullChain", "()Z"⟩
abbrev cX3_addLink : ByteArray := prog_5_method_3_code
def yX3_addLink : MethodName := ⟨RX3, "addLink", "(LCourtMail$Link;)V"⟩
abbrev cX3_countGaps : ByteArray := prog_5_method_4_code
def yX3_countGaps : MethodName := ⟨RX3, "countGaps", "()I"⟩
abbrev cX3_canBeAdmitted : ByteArray := prog_5_method_5_code
def yX3_canBeAdmitted : MethodName := ⟨RX3, "canBeAdmitted", "()Z"⟩
def RX4 : String := "CourtMail$Letter"
def TX4 : u_T := fun k => match k with
  | 0 => ("CourtMail$Letter", "document", "LCourtMail$Document;", true)
  | 1 => ("CourtMail$Letter", "documentNumber", "I", true)
  | 2 => ("CourtMail$Letter", "person", "LCourtMail$Person;", true)
  | 3 => ("CourtMail$Letter", "due", "I", true)
  | 4 => ("CourtMail$Letter", "state", "I", false)
  | _ => ("CourtMail$Letter", "carriedOn", "I", false)
def tyX4 : Nat → FieldType := fun k => match k with
  | 0 => .object "CourtMail$Document"
  | 1 => .int
  | 2 => .object "CourtMail$Person"
  | 3 => .int
  | 4 => .int
  | _ => .int
abbrev wsX40 : List Cond := u_ws RX4 TX4 6
theorem nmX4 : ∀ a, a < 6 → ∀ b, b < 6 → a ≠ b → (TX4 a).2.1 ≠ (TX4 b).2.1 := by decide +kernel
theorem tyX4_ok : ∀ k, k < 6 → parseFieldDescriptor (TX4 k).2.2.1 = some (tyX4 k) := by decide +kernel
abbrev cX4_init : ByteArray := prog_6_method_1_code
def yX4_init : MethodName := ⟨RX4, "<init>", "(LCourtMail$Document;ILCourtMail$Person;I)V"⟩
def RX5 : String := "CourtMail$Link"
def TX5 : u_T := fun k => match k with
  | 0 => ("CourtMail$Link", "day", "I", true)
  | 1 => ("CourtMail$Link", "from", "LCourtMail$Person;", true)
  | 2 => ("CourtMail$Link", "to", "LCourtMail$Person;", true)
  | _ => ("CourtMail$Link", "happened", "I", true)
def tyX5 : Nat → FieldType := fun k => match k with
  | 0 => .int
  | 1 => .object "CourtMail$Person"
  | 2 => .object "CourtMail$Person"
  | _ => .int
abbrev wsX50 : List Cond := u_ws RX5 TX5 4
theorem nmX5 : ∀ a, a < 4 → ∀ b, b < 4 → a ≠ b → (TX5 a).2.1 ≠ (TX5 b).2.1 := by decide +kernel
theorem tyX5_ok : ∀ k, k < 4 → parseFieldDescriptor (TX5 k).2.2.1 = some (tyX5 k) := by decide +kernel
abbrev cX5_init : ByteArray := prog_7_method_1_code
def yX5_init : MethodName := ⟨RX5, "<init>", "(ILCourtMail$Person;LCourtMail$Person;I)V"⟩
abbrev cX5_taints : ByteArray := prog_7_method_2_code
def yX5_taints : MethodName := ⟨RX5, "taints", "()Z"⟩
def RX6 : String := "CourtMail$Person"
def TX6 : u_T := fun k => match k with
  | 0 => ("CourtMail$Person", "number", "I", true)
  | 1 => ("CourtMail$Person", "role", "I", true)
  | 2 => ("CourtMail$Person", "clearance", "I", false)
  | 3 => ("CourtMail$Person", "attached", "I", false)
  | _ => ("CourtMail$Person", "warnings", "I", false)
def tyX6 : Nat → FieldType := fun k => match k with
  | 0 => .int
  | 1 => .int
  | 2 => .int
  | 3 => .int
  | _ => .int
abbrev wsX60 : List Cond := u_ws RX6 TX6 5
theorem nmX6 : ∀ a, a < 5 → ∀ b, b < 5 → a ≠ b → (TX6 a).2.1 ≠ (TX6 b).2.1 := by decide +kernel
theorem tyX6_ok : ∀ k, k < 5 → parseFieldDescriptor (TX6 k).2.2.1 = some (tyX6 k) := by decide +kernel
abbrev cX6_init : ByteArray := prog_8_method_1_code
def yX6_init : MethodName := ⟨RX6, "<init>", "(III)V"⟩
abbrev cX6_isAttachedTo : ByteArray := prog_8_method_2_code
def yX6_isAttachedTo : MethodName := ⟨RX6, "isAttachedTo", "(LCourtMail$Case;)Z"⟩
abbrev cX6_reachInto : ByteArray := prog_8_method_3_code
def yX6_reachInto : MethodName := ⟨RX6, "reachInto", "(LCourtMail$Case;)I"⟩
abbrev cX6_reachWith : ByteArray := prog_8_method_4_code
def yX6_reachWith : MethodName := ⟨RX6, "reachWith", "(ILCourtMail$Case;)I"⟩
abbrev cX6_canSeeInto : ByteArray := prog_8_method_5_code
def yX6_canSeeInto : MethodName := ⟨RX6, "canSeeInto", "(LCourtMail$Case;)Z"⟩
abbrev cX6_warn : ByteArray := prog_8_method_6_code
def yX6_warn : MethodName := ⟨RX6, "warn", "()V"⟩
def RX7 : String := "CourtMail"
def TX7 : u_T := fun k => match k with
  | 0 => ("CourtMail", "cases", "Ljava/util/ArrayList;", true)
  | 1 => ("CourtMail", "people", "Ljava/util/ArrayList;", true)
  | 2 => ("CourtMail", "documents", "Ljava/util/ArrayList;", true)
  | 3 => ("CourtMail", "exhibits", "Ljava/util/ArrayList;", true)
  | 4 => ("CourtMail", "letters", "Ljava/util/ArrayList;", true)
  | 5 => ("CourtMail", "tape", "[I", true)
  | 6 => ("CourtMail", "tapeLength", "I", false)
  | 7 => ("CourtMail", "paper", "[I", true)
  | 8 => ("CourtMail", "paperLength", "I", false)
  | 9 => ("CourtMail", "draft", "LCourtMail$Draft;", true)
  | 10 => ("CourtMail", "errorPlace", "I", false)
  | _ => ("CourtMail", "day", "I", false)
def tyX7 : Nat → FieldType := fun k => match k with
  | 0 => .object "java/util/ArrayList"
  | 1 => .object "java/util/ArrayList"
  | 2 => .object "java/util/ArrayList"
  | 3 => .object "java/util/ArrayList"
  | 4 => .object "java/util/ArrayList"
  | 5 => .array .int
  | 6 => .int
  | 7 => .array .int
  | 8 => .int
  | 9 => .object "CourtMail$Draft"
  | 10 => .int
  | _ => .int
abbrev wsX70 : List Cond := u_ws RX7 TX7 12
theorem nmX7 : ∀ a, a < 12 → ∀ b, b < 12 → a ≠ b → (TX7 a).2.1 ≠ (TX7 b).2.1 := by decide +kernel
theorem tyX7_ok : ∀ k, k < 12 → parseFieldDescriptor (TX7 k).2.2.1 = some (tyX7 k) := by decide +kernel
abbrev cX7_init : ByteArray := prog_1_method_1_code
def yX7_init : MethodName := ⟨RX7, "<init>", "()V"⟩
abbrev cX7_feed : ByteArray := prog_1_method_2_code
def yX7_feed : MethodName := ⟨RX7, "feed", "(IIIII)I"⟩
abbrev cX7_trim : ByteArray := prog_1_method_3_code
def yX7_trim : MethodName := ⟨RX7, "trim", "(I)I"⟩
abbrev cX7_file : ByteArray := prog_1_method_4_code
def yX7_file : MethodName := ⟨RX7, "file", "(I)I"⟩
abbrev cX7_errorAt : ByteArray := prog_1_method_5_code
def yX7_errorAt : MethodName := ⟨RX7, "errorAt", "()I"⟩
abbrev cX7_veil : ByteArray := prog_1_method_6_code
def yX7_veil : MethodName := ⟨RX7, "veil", "(IIII)I"⟩
abbrev cX7_document : ByteArray := prog_1_method_7_code
def yX7_document : MethodName := ⟨RX7, "document", "(II)I"⟩
abbrev cX7_open : ByteArray := prog_1_method_8_code
def yX7_open : MethodName := ⟨RX7, "open", "(I)I"⟩
abbrev cX7_seal : ByteArray := prog_1_method_9_code
def yX7_seal : MethodName := ⟨RX7, "seal", "(II)I"⟩
abbrev cX7_addPerson : ByteArray := prog_1_method_10_code
def yX7_addPerson : MethodName := ⟨RX7, "addPerson", "(II)I"⟩
abbrev cX7_attach : ByteArray := prog_1_method_11_code
def yX7_attach : MethodName := ⟨RX7, "attach", "(II)Z"⟩
abbrev cX7_person : ByteArray := prog_1_method_12_code
def yX7_person : MethodName := ⟨RX7, "person", "(II)I"⟩
abbrev cX7_caseOf : ByteArray := prog_1_method_13_code
def yX7_caseOf : MethodName := ⟨RX7, "caseOf", "(II)I"⟩
abbrev cX7_read : ByteArray := prog_1_method_14_code
def yX7_read : MethodName := ⟨RX7, "read", "(II)I"⟩
abbrev cX7_byteAt : ByteArray := prog_1_method_15_code
def yX7_byteAt : MethodName := ⟨RX7, "byteAt", "(I)I"⟩
abbrev cX7_hidden : ByteArray := prog_1_method_16_code
def yX7_hidden : MethodName := ⟨RX7, "hidden", "(II)I"⟩
abbrev cX7_differs : ByteArray := prog_1_method_17_code
def yX7_differs : MethodName := ⟨RX7, "differs", "(III)I"⟩
abbrev cX7_find : ByteArray := prog_1_method_18_code
def yX7_find : MethodName := ⟨RX7, "find", "(II)I"⟩
abbrev cX7_least : ByteArray := prog_1_method_19_code
def yX7_least : MethodName := ⟨RX7, "least", "(III)I"⟩
abbrev cX7_lend : ByteArray := prog_1_method_20_code
def yX7_lend : MethodName := ⟨RX7, "lend", "(III)I"⟩
abbrev cX7_back : ByteArray := prog_1_method_21_code
def yX7_back : MethodName := ⟨RX7, "back", "(I)I"⟩
abbrev cX7_takeIn : ByteArray := prog_1_method_22_code
def yX7_takeIn : MethodName := ⟨RX7, "takeIn", "(I)I"⟩
abbrev cX7_hand : ByteArray := prog_1_method_23_code
def yX7_hand : MethodName := ⟨RX7, "hand", "(II)I"⟩
abbrev cX7_unseal : ByteArray := prog_1_method_24_code
def yX7_unseal : MethodName := ⟨RX7, "unseal", "(I)I"⟩
abbrev cX7_lose : ByteArray := prog_1_method_25_code
def yX7_lose : MethodName := ⟨RX7, "lose", "(I)I"⟩
abbrev cX7_found : ByteArray := prog_1_method_26_code
def yX7_found : MethodName := ⟨RX7, "found", "(II)I"⟩
abbrev cX7_exhibit : ByteArray := prog_1_method_27_code
def yX7_exhibit : MethodName := ⟨RX7, "exhibit", "(II)I"⟩
abbrev cX7_link : ByteArray := prog_1_method_28_code
def yX7_link : MethodName := ⟨RX7, "link", "(III)I"⟩
abbrev cX7_send : ByteArray := prog_1_method_29_code
def yX7_send : MethodName := ⟨RX7, "send", "(III)I"⟩
abbrev cX7_letter : ByteArray := prog_1_method_30_code
def yX7_letter : MethodName := ⟨RX7, "letter", "(II)I"⟩
abbrev cX7_pass : ByteArray := prog_1_method_31_code
def yX7_pass : MethodName := ⟨RX7, "pass", "(I)I"⟩
abbrev cX7_arrives : ByteArray := prog_1_method_32_code
def yX7_arrives : MethodName := ⟨RX7, "arrives", "(I)I"⟩
abbrev cX7_count : ByteArray := prog_1_method_33_code
def yX7_count : MethodName := ⟨RX7, "count", "(I)I"⟩
abbrev cX7_sees : ByteArray := prog_1_method_34_code
def yX7_sees : MethodName := ⟨RX7, "sees", "(I)I"⟩
abbrev cX7_plain : ByteArray := prog_1_method_35_code
def yX7_plain : MethodName := ⟨RX7, "plain", "()D"⟩
abbrev cX7_digest : ByteArray := prog_1_method_36_code
def yX7_digest : MethodName := ⟨RX7, "digest", "()J"⟩
abbrev cX7_caseAt : ByteArray := prog_1_method_37_code
def yX7_caseAt : MethodName := ⟨RX7, "caseAt", "(I)LCourtMail$Case;"⟩
abbrev cX7_personAt : ByteArray := prog_1_method_38_code
def yX7_personAt : MethodName := ⟨RX7, "personAt", "(I)LCourtMail$Person;"⟩
abbrev cX7_documentAt : ByteArray := prog_1_method_39_code
def yX7_documentAt : MethodName := ⟨RX7, "documentAt", "(I)LCourtMail$Document;"⟩
abbrev cX7_exhibitAt : ByteArray := prog_1_method_40_code
def yX7_exhibitAt : MethodName := ⟨RX7, "exhibitAt", "(I)LCourtMail$Exhibit;"⟩
abbrev cX7_letterAt : ByteArray := prog_1_method_41_code
def yX7_letterAt : MethodName := ⟨RX7, "letterAt", "(I)LCourtMail$Letter;"⟩
abbrev cX7_numberOf : ByteArray := prog_1_method_42_code
def yX7_numberOf : MethodName := ⟨RX7, "numberOf", "(LCourtMail$Person;)I"⟩
abbrev cX7_isLevel : ByteArray := prog_1_method_43_code
def yX7_isLevel : MethodName := ⟨RX7, "isLevel", "(I)Z"⟩
abbrev cX7_append : ByteArray := prog_1_method_44_code
def yX7_append : MethodName := ⟨RX7, "append", "(I)V"⟩
abbrev cX7_writePaper : ByteArray := prog_1_method_45_code
def yX7_writePaper : MethodName := ⟨RX7, "writePaper", "(LCourtMail$Document;I)V"⟩
abbrev cX7_isTapeSeen : ByteArray := prog_1_method_46_code
def yX7_isTapeSeen : MethodName := ⟨RX7, "isTapeSeen", "(LCourtMail$Document;II)Z"⟩
abbrev cX7_hiddenBytes : ByteArray := prog_1_method_47_code
def yX7_hiddenBytes : MethodName := ⟨RX7, "hiddenBytes", "(LCourtMail$Person;LCourtMail$Document;)I"⟩
abbrev cX7_bytesSeenBy : ByteArray := prog_1_method_48_code
def yX7_bytesSeenBy : MethodName := ⟨RX7, "bytesSeenBy", "(LCourtMail$Person;LCourtMail$Case;)I"⟩
abbrev cX7_exhibitsOf : ByteArray := prog_1_method_49_code
def yX7_exhibitsOf : MethodName := ⟨RX7, "exhibitsOf", "(LCourtMail$Case;)I"⟩
abbrev cX7_carryOutLetters : ByteArray := prog_1_method_50_code
def yX7_carryOutLetters : MethodName := ⟨RX7, "carryOutLetters", "()I"⟩
abbrev cX7_lettersOfADay : ByteArray := prog_1_method_51_code
def yX7_lettersOfADay : MethodName := ⟨RX7, "lettersOfADay", "()I"⟩
abbrev cX7_nextLetter : ByteArray := prog_1_method_52_code
def yX7_nextLetter : MethodName := ⟨RX7, "nextLetter", "()LCourtMail$Letter;"⟩
abbrev cX7_carryOut : ByteArray := prog_1_method_53_code
def yX7_carryOut : MethodName := ⟨RX7, "carryOut", "(LCourtMail$Letter;)V"⟩
abbrev cX7_callBackOriginals : ByteArray := prog_1_method_54_code
def yX7_callBackOriginals : MethodName := ⟨RX7, "callBackOriginals", "()V"⟩
abbrev cX7_lettersAhead : ByteArray := prog_1_method_55_code
def yX7_lettersAhead : MethodName := ⟨RX7, "lettersAhead", "(ILCourtMail$Letter;)I"⟩
abbrev cX7_clearanceBehind : ByteArray := prog_1_method_56_code
def yX7_clearanceBehind : MethodName := ⟨RX7, "clearanceBehind", "(LCourtMail$Person;I)I"⟩
abbrev cX7_tellCount : ByteArray := prog_1_method_57_code
def yX7_tellCount : MethodName := ⟨RX7, "tellCount", "(I)I"⟩
abbrev cX7_countLetters : ByteArray := prog_1_method_58_code
def yX7_countLetters : MethodName := ⟨RX7, "countLetters", "(I)I"⟩
abbrev cX7_countLost : ByteArray := prog_1_method_59_code
def yX7_countLost : MethodName := ⟨RX7, "countLost", "()I"⟩
abbrev cX7_countLent : ByteArray := prog_1_method_60_code
def yX7_countLent : MethodName := ⟨RX7, "countLent", "()I"⟩
abbrev cX7_tellCase : ByteArray := prog_1_method_61_code
def yX7_tellCase : MethodName := ⟨RX7, "tellCase", "(LCourtMail$Case;I)I"⟩
abbrev cX7_countDocumentsOf : ByteArray := prog_1_method_62_code
def yX7_countDocumentsOf : MethodName := ⟨RX7, "countDocumentsOf", "(LCourtMail$Case;)I"⟩
abbrev cX7_countAdmitted : ByteArray := prog_1_method_63_code
def yX7_countAdmitted : MethodName := ⟨RX7, "countAdmitted", "(LCourtMail$Case;)I"⟩
abbrev cX7_countWhoSeeInto : ByteArray := prog_1_method_64_code
def yX7_countWhoSeeInto : MethodName := ⟨RX7, "countWhoSeeInto", "(LCourtMail$Case;)I"⟩
abbrev cX7_tellPerson : ByteArray := prog_1_method_65_code
def yX7_tellPerson : MethodName := ⟨RX7, "tellPerson", "(LCourtMail$Person;I)I"⟩
abbrev cX7_casesSeenBy : ByteArray := prog_1_method_66_code
def yX7_casesSeenBy : MethodName := ⟨RX7, "casesSeenBy", "(LCourtMail$Person;)I"⟩
abbrev cX7_countOriginalsWith : ByteArray := prog_1_method_67_code
def yX7_countOriginalsWith : MethodName := ⟨RX7, "countOriginalsWith", "(LCourtMail$Person;)I"⟩
abbrev cX7_countExhibitsWith : ByteArray := prog_1_method_68_code
def yX7_countExhibitsWith : MethodName := ⟨RX7, "countExhibitsWith", "(LCourtMail$Person;)I"⟩
abbrev cX7_countDeliveredTo : ByteArray := prog_1_method_69_code
def yX7_countDeliveredTo : MethodName := ⟨RX7, "countDeliveredTo", "(LCourtMail$Person;)I"⟩
abbrev cX7_tellDocument : ByteArray := prog_1_method_70_code
def yX7_tellDocument : MethodName := ⟨RX7, "tellDocument", "(LCourtMail$Document;I)I"⟩
abbrev cX7_tellExhibit : ByteArray := prog_1_method_71_code
def yX7_tellExhibit : MethodName := ⟨RX7, "tellExhibit", "(LCourtMail$Exhibit;I)I"⟩
abbrev cX7_countDocumentsThatMark : ByteArray := prog_1_method_72_code
def yX7_countDocumentsThatMark : MethodName := ⟨RX7, "countDocumentsThatMark", "(LCourtMail$Exhibit;)I"⟩
abbrev cX7_tellLink : ByteArray := prog_1_method_73_code
def yX7_tellLink : MethodName := ⟨RX7, "tellLink", "(LCourtMail$Link;I)I"⟩
abbrev cX7_tellLetter : ByteArray := prog_1_method_74_code
def yX7_tellLetter : MethodName := ⟨RX7, "tellLetter", "(LCourtMail$Letter;I)I"⟩
abbrev cX7_digestCases : ByteArray := prog_1_method_75_code
def yX7_digestCases : MethodName := ⟨RX7, "digestCases", "(J)J"⟩
abbrev cX7_digestPeople : ByteArray := prog_1_method_76_code
def yX7_digestPeople : MethodName := ⟨RX7, "digestPeople", "(J)J"⟩
abbrev cX7_digestDocuments : ByteArray := prog_1_method_77_code
def yX7_digestDocuments : MethodName := ⟨RX7, "digestDocuments", "(J)J"⟩
abbrev cX7_digestExhibits : ByteArray := prog_1_method_78_code
def yX7_digestExhibits : MethodName := ⟨RX7, "digestExhibits", "(J)J"⟩
abbrev cX7_digestLetters : ByteArray := prog_1_method_79_code
def yX7_digestLetters : MethodName := ⟨RX7, "digestLetters", "(J)J"⟩
def RX8 : String := "CourtMailModel$State"
def TX8 : u_T := fun k => match k with
  | 0 => ("CourtMailModel$State", "day", "I", false)
  | 1 => ("CourtMailModel$State", "clearance", "[I", true)
  | 2 => ("CourtMailModel$State", "warned", "[I", true)
  | 3 => ("CourtMailModel$State", "lent", "[I", true)
  | 4 => ("CourtMailModel$State", "until", "[I", true)
  | 5 => ("CourtMailModel$State", "log", "[I", true)
  | 6 => ("CourtMailModel$State", "done", "[I", true)
  | 7 => ("CourtMailModel$State", "when", "[I", true)
  | _ => ("CourtMailModel$State", "this$0", "LCourtMailModel;", true)
def tyX8 : Nat → FieldType := fun k => match k with
  | 0 => .int
  | 1 => .array .int
  | 2 => .array .int
  | 3 => .array .int
  | 4 => .array .int
  | 5 => .array .int
  | 6 => .array .int
  | 7 => .array .int
  | _ => .object "CourtMailModel"
abbrev wsX80 : List Cond := u_ws RX8 TX8 9
theorem nmX8 : ∀ a, a < 9 → ∀ b, b < 9 → a ≠ b → (TX8 a).2.1 ≠ (TX8 b).2.1 := by decide +kernel
theorem tyX8_ok : ∀ k, k < 9 → parseFieldDescriptor (TX8 k).2.2.1 = some (tyX8 k) := by decide +kernel
abbrev cX8_init : ByteArray := prog_11_method_1_code
def yX8_init : MethodName := ⟨RX8, "<init>", "(LCourtMailModel;)V"⟩
abbrev cX8_copy : ByteArray := prog_11_method_2_code
def yX8_copy : MethodName := ⟨RX8, "copy", "([I[I)V"⟩
abbrev cX8_become : ByteArray := prog_11_method_3_code
def yX8_become : MethodName := ⟨RX8, "become", "(LCourtMailModel$State;)V"⟩
abbrev cX8_reach : ByteArray := prog_11_method_4_code
def yX8_reach : MethodName := ⟨RX8, "reach", "(II)I"⟩
abbrev cX8_isIn : ByteArray := prog_11_method_5_code
def yX8_isIn : MethodName := ⟨RX8, "isIn", "(II)Z"⟩
abbrev cX8_next : ByteArray := prog_11_method_6_code
def yX8_next : MethodName := ⟨RX8, "next", "()I"⟩
abbrev cX8_pass : ByteArray := prog_11_method_7_code
def yX8_pass : MethodName := ⟨RX8, "pass", "()I"⟩
def RX9 : String := "CourtMailModel"
def TX9 : u_T := fun k => match k with
  | 0 => ("CourtMailModel", "thrown", "I", false)
  | 1 => ("CourtMailModel", "tape", "[I", true)
  | 2 => ("CourtMailModel", "taped", "I", false)
  | 3 => ("CourtMailModel", "wrong", "I", false)
  | 4 => ("CourtMailModel", "paper", "[I", true)
  | 5 => ("CourtMailModel", "papered", "I", false)
  | 6 => ("CourtMailModel", "cases", "I", false)
  | 7 => ("CourtMailModel", "sealed", "[I", true)
  | 8 => ("CourtMailModel", "people", "I", false)
  | 9 => ("CourtMailModel", "role", "[I", true)
  | 10 => ("CourtMailModel", "attached", "[I", true)
  | 11 => ("CourtMailModel", "documents", "I", false)
  | 12 => ("CourtMailModel", "caseOf", "[I", true)
  | 13 => ("CourtMailModel", "text", "[[I", true)
  | 14 => ("CourtMailModel", "level", "[[I", true)
  | 15 => ("CourtMailModel", "mark", "[[I", true)
  | 16 => ("CourtMailModel", "marks", "[I", true)
  | 17 => ("CourtMailModel", "exhibits", "I", false)
  | 18 => ("CourtMailModel", "exhibitCase", "[I", true)
  | 19 => ("CourtMailModel", "has", "[I", true)
  | 20 => ("CourtMailModel", "number", "[I", true)
  | 21 => ("CourtMailModel", "links", "[I", true)
  | 22 => ("CourtMailModel", "chain", "[I", true)
  | 23 => ("CourtMailModel", "letters", "I", false)
  | 24 => ("CourtMailModel", "copyOf", "[I", true)
  | 25 => ("CourtMailModel", "sentTo", "[I", true)
  | 26 => ("CourtMailModel", "due", "[I", true)
  | 27 => ("CourtMailModel", "s", "LCourtMailModel$State;", true)
  | 28 => ("CourtMailModel", "ahead", "LCourtMailModel$State;", true)
  | 29 => ("CourtMailModel", "letter", "[I", true)
  | 30 => ("CourtMailModel", "height", "[I", true)
  | 31 => ("CourtMailModel", "star", "[I", true)
  | 32 => ("CourtMailModel", "written", "I", false)
  | 33 => ("CourtMailModel", "foreign", "I", false)
  | _ => ("CourtMailModel", "marked", "I", false)
def tyX9 : Nat → FieldType := fun k => match k with
  | 0 => .int
  | 1 => .array .int
  | 2 => .int
  | 3 => .int
  | 4 => .array .int
  | 5 => .int
  | 6 => .int
  | 7 => .array .int
  | 8 => .int
  | 9 => .array .int
  | 10 => .array .int
  | 11 => .int
  | 12 => .array .int
  | 13 => .array (.array .int)
  | 14 => .array (.array .int)
  | 15 => .array (.array .int)
  | 16 => .array .int
  | 17 => .int
  | 18 => .array .int
  | 19 => .array .int
  | 20 => .array .int
  | 21 => .array .int
  | 22 => .array .int
  | 23 => .int
  | 24 => .array .int
  | 25 => .array .int
  | 26 => .array .int
  | 27 => .object "CourtMailModel$State"
  | 28 => .object "CourtMailModel$State"
  | 29 => .array .int
  | 30 => .array .int
  | 31 => .array .int
  | 32 => .int
  | 33 => .int
  | _ => .int
abbrev wsX90 : List Cond := u_ws RX9 TX9 35
theorem nmX9 : ∀ a, a < 35 → ∀ b, b < 35 → a ≠ b → (TX9 a).2.1 ≠ (TX9 b).2.1 := by decide +kernel
theorem tyX9_ok : ∀ k, k < 35 → parseFieldDescriptor (TX9 k).2.2.1 = some (tyX9 k) := by decide +kernel
abbrev cX9_init : ByteArray := prog_10_method_1_code
def yX9_init : MethodName := ⟨RX9, "<init>", "()V"⟩
abbrev cX9_thrown : ByteArray := prog_10_method_2_code
def yX9_thrown : MethodName := ⟨RX9, "thrown", "()I"⟩
abbrev cX9_no : ByteArray := prog_10_method_3_code
def yX9_no : MethodName := ⟨RX9, "no", "(I)I"⟩
abbrev cX9_isIn : ByteArray := prog_10_method_4_code
def yX9_isIn : MethodName := ⟨RX9, "isIn", "(III)Z"⟩
abbrev cX9_isCase : ByteArray := prog_10_method_5_code
def yX9_isCase : MethodName := ⟨RX9, "isCase", "(I)Z"⟩
abbrev cX9_isPerson : ByteArray := prog_10_method_6_code
def yX9_isPerson : MethodName := ⟨RX9, "isPerson", "(I)Z"⟩
abbrev cX9_isDocument : ByteArray := prog_10_method_7_code
def yX9_isDocument : MethodName := ⟨RX9, "isDocument", "(I)Z"⟩
abbrev cX9_isExhibit : ByteArray := prog_10_method_8_code
def yX9_isExhibit : MethodName := ⟨RX9, "isExhibit", "(I)Z"⟩
abbrev cX9_clerks : ByteArray := prog_10_method_9_code
def yX9_clerks : MethodName := ⟨RX9, "clerks", "()I"⟩
abbrev cX9_feed : ByteArray := prog_10_method_10_code
def yX9_feed : MethodName := ⟨RX9, "feed", "(IIIII)I"⟩
abbrev cX9_trim : ByteArray := prog_10_method_11_code
def yX9_trim : MethodName := ⟨RX9, "trim", "(I)I"⟩
abbrev cX9_write : ByteArray := prog_10_method_12_code
def yX9_write : MethodName := ⟨RX9, "write", "(III)V"⟩
abbrev cX9_at : ByteArray := prog_10_method_13_code
def yX9_at : MethodName := ⟨RX9, "at", "(I)I"⟩
abbrev cX9_isLetter : ByteArray := prog_10_method_14_code
def yX9_isLetter : MethodName := ⟨RX9, "isLetter", "(I)Z"⟩
abbrev cX9_parse : ByteArray := prog_10_method_15_code
def yX9_parse : MethodName := ⟨RX9, "parse", "(I)I"⟩
abbrev cX9_writeExhibit : ByteArray := prog_10_method_16_code
def yX9_writeExhibit : MethodName := ⟨RX9, "writeExhibit", "(II)V"⟩
abbrev cX9_file : ByteArray := prog_10_method_17_code
def yX9_file : MethodName := ⟨RX9, "file", "(I)I"⟩
abbrev cX9_errorAt : ByteArray := prog_10_method_18_code
def yX9_errorAt : MethodName := ⟨RX9, "errorAt", "()I"⟩
abbrev cX9_veil : ByteArray := prog_10_method_19_code
def yX9_veil : MethodName := ⟨RX9, "veil", "(IIII)I"⟩
abbrev cX9_documentTold : ByteArray := prog_10_method_20_code
def yX9_documentTold : MethodName := ⟨RX9, "documentTold", "(II)I"⟩
abbrev cX9_document : ByteArray := prog_10_method_21_code
def yX9_document : MethodName := ⟨RX9, "document", "(II)I"⟩
abbrev cX9_open : ByteArray := prog_10_method_22_code
def yX9_open : MethodName := ⟨RX9, "open", "(I)I"⟩
abbrev cX9_seal : ByteArray := prog_10_method_23_code
def yX9_seal : MethodName := ⟨RX9, "seal", "(II)I"⟩
abbrev cX9_addPerson : ByteArray := prog_10_method_24_code
def yX9_addPerson : MethodName := ⟨RX9, "addPerson", "(II)I"⟩
abbrev cX9_attach : ByteArray := prog_10_method_25_code
def yX9_attach : MethodName := ⟨RX9, "attach", "(II)Z"⟩
abbrev cX9_personTold : ByteArray := prog_10_method_26_code
def yX9_personTold : MethodName := ⟨RX9, "personTold", "(II)I"⟩
abbrev cX9_person : ByteArray := prog_10_method_27_code
def yX9_person : MethodName := ⟨RX9, "person", "(II)I"⟩
abbrev cX9_caseTold : ByteArray := prog_10_method_28_code
def yX9_caseTold : MethodName := ⟨RX9, "caseTold", "(II)I"⟩
abbrev cX9_caseOf : ByteArray := prog_10_method_29_code
def yX9_caseOf : MethodName := ⟨RX9, "caseOf", "(II)I"⟩
abbrev cX9_seen : ByteArray := prog_10_method_30_code
def yX9_seen : MethodName := ⟨RX9, "seen", "(III)I"⟩
abbrev cX9_seenBy : ByteArray := prog_10_method_31_code
def yX9_seenBy : MethodName := ⟨RX9, "seenBy", "(III)I"⟩
abbrev cX9_isPair : ByteArray := prog_10_method_32_code
def yX9_isPair : MethodName := ⟨RX9, "isPair", "(II)Z"⟩
abbrev cX9_read : ByteArray := prog_10_method_33_code
def yX9_read : MethodName := ⟨RX9, "read", "(II)I"⟩
abbrev cX9_byteAt : ByteArray := prog_10_method_34_code
def yX9_byteAt : MethodName := ⟨RX9, "byteAt", "(I)I"⟩
abbrev cX9_hiddenOf : ByteArray := prog_10_method_35_code
def yX9_hiddenOf : MethodName := ⟨RX9, "hiddenOf", "(II)I"⟩
abbrev cX9_hidden : ByteArray := prog_10_method_36_code
def yX9_hidden : MethodName := ⟨RX9, "hidden", "(II)I"⟩
abbrev cX9_differs : ByteArray := prog_10_method_37_code
def yX9_differs : MethodName := ⟨RX9, "differs", "(III)I"⟩
abbrev cX9_find : ByteArray := prog_10_method_38_code
def yX9_find : MethodName := ⟨RX9, "find", "(II)I"⟩
abbrev cX9_least : ByteArray := prog_10_method_39_code
def yX9_least : MethodName := ⟨RX9, "least", "(III)I"⟩
abbrev cX9_lend : ByteArray := prog_10_method_40_code
def yX9_lend : MethodName := ⟨RX9, "lend", "(III)I"⟩
abbrev cX9_back : ByteArray := prog_10_method_41_code
def yX9_back : MethodName := ⟨RX9, "back", "(I)I"⟩
abbrev cX9_takeIn : ByteArray := prog_10_method_42_code
def yX9_takeIn : MethodName := ⟨RX9, "takeIn", "(I)I"⟩
abbrev cX9_add : ByteArray := prog_10_method_43_code
def yX9_add : MethodName := ⟨RX9, "add", "(IIII)I"⟩
abbrev cX9_hand : ByteArray := prog_10_method_44_code
def yX9_hand : MethodName := ⟨RX9, "hand", "(II)I"⟩
abbrev cX9_unseal : ByteArray := prog_10_method_45_code
def yX9_unseal : MethodName := ⟨RX9, "unseal", "(I)I"⟩
abbrev cX9_lose : ByteArray := prog_10_method_46_code
def yX9_lose : MethodName := ⟨RX9, "lose", "(I)I"⟩
abbrev cX9_found : ByteArray := prog_10_method_47_code
def yX9_found : MethodName := ⟨RX9, "found", "(II)I"⟩
abbrev cX9_linkTold : ByteArray := prog_10_method_48_code
def yX9_linkTold : MethodName := ⟨RX9, "linkTold", "(III)I"⟩
abbrev cX9_gaps : ByteArray := prog_10_method_49_code
def yX9_gaps : MethodName := ⟨RX9, "gaps", "(I)I"⟩
abbrev cX9_isGood : ByteArray := prog_10_method_50_code
def yX9_isGood : MethodName := ⟨RX9, "isGood", "(I)Z"⟩
abbrev cX9_exhibitTold : ByteArray := prog_10_method_51_code
def yX9_exhibitTold : MethodName := ⟨RX9, "exhibitTold", "(II)I"⟩
abbrev cX9_exhibit : ByteArray := prog_10_method_52_code
def yX9_exhibit : MethodName := ⟨RX9, "exhibit", "(II)I"⟩
abbrev cX9_link : ByteArray := prog_10_method_53_code
def yX9_link : MethodName := ⟨RX9, "link", "(III)I"⟩
abbrev cX9_send : ByteArray := prog_10_method_54_code
def yX9_send : MethodName := ⟨RX9, "send", "(III)I"⟩
abbrev cX9_letterTold : ByteArray := prog_10_method_55_code
def yX9_letterTold : MethodName := ⟨RX9, "letterTold", "(II)I"⟩
abbrev cX9_letter : ByteArray := prog_10_method_56_code
def yX9_letter : MethodName := ⟨RX9, "letter", "(II)I"⟩
abbrev cX9_pass : ByteArray := prog_10_method_57_code
def yX9_pass : MethodName := ⟨RX9, "pass", "(I)I"⟩
abbrev cX9_arrives : ByteArray := prog_10_method_58_code
def yX9_arrives : MethodName := ⟨RX9, "arrives", "(I)I"⟩
abbrev cX9_counted : ByteArray := prog_10_method_59_code
def yX9_counted : MethodName := ⟨RX9, "counted", "(I)I"⟩
abbrev cX9_count : ByteArray := prog_10_method_60_code
def yX9_count : MethodName := ⟨RX9, "count", "(I)I"⟩
abbrev cX9_sees : ByteArray := prog_10_method_61_code
def yX9_sees : MethodName := ⟨RX9, "sees", "(I)I"⟩
abbrev cX9_plain : ByteArray := prog_10_method_62_code
def yX9_plain : MethodName := ⟨RX9, "plain", "()D"⟩
abbrev cX9_digest : ByteArray := prog_10_method_63_code
def yX9_digest : MethodName := ⟨RX9, "digest", "()J"⟩
def RJx145de : String := "java/io/Serializable"
def TJx145de : u_T := fun k => match k with
  | _ => ("", "", "", false)
def tyJx145de : Nat → FieldType := fun k => match k with
  | _ => .int
abbrev wsJx145de0 : List Cond := u_ws RJx145de TJx145de 0
theorem nmJx145de : ∀ a, a < 0 → ∀ b, b < 0 → a ≠ b → (TJx145de a).2.1 ≠ (TJx145de b).2.1 := by decide +kernel
theorem tyJx145de_ok : ∀ k, k < 0 → parseFieldDescriptor (TJx145de k).2.2.1 = some (tyJx145de k) := by decide +kernel
def RJx8e188 : String := "java/lang/Cloneable"
def TJx8e188 : u_T := fun k => match k with
  | _ => ("", "", "", false)
def tyJx8e188 : Nat → FieldType := fun k => match k with
  | _ => .int
abbrev wsJx8e1880 : List Cond := u_ws RJx8e188 TJx8e188 0
theorem nmJx8e188 : ∀ a, a < 0 → ∀ b, b < 0 → a ≠ b → (TJx8e188 a).2.1 ≠ (TJx8e188 b).2.1 := by decide +kernel
theorem tyJx8e188_ok : ∀ k, k < 0 → parseFieldDescriptor (TJx8e188 k).2.2.1 = some (tyJx8e188 k) := by decide +kernel
def RJ6 : String := "java/lang/Integer"
def TJ6 : u_T := fun k => match k with
  | _ => ("", "", "", false)
def tyJ6 : Nat → FieldType := fun k => match k with
  | _ => .int
abbrev wsJ60 : List Cond := u_ws RJ6 TJ6 0
theorem nmJ6 : ∀ a, a < 0 → ∀ b, b < 0 → a ≠ b → (TJ6 a).2.1 ≠ (TJ6 b).2.1 := by decide +kernel
theorem tyJ6_ok : ∀ k, k < 0 → parseFieldDescriptor (TJ6 k).2.2.1 = some (tyJ6 k) := by decide +kernel
abbrev cJ6_bitCount_0f7a4 : ByteArray := prog_18_method_49_code
def yJ6_bitCount_0f7a4 : MethodName := ⟨RJ6, "bitCount", "(I)I"⟩
def RJxab1ab : String := "java/lang/Iterable"
def TJxab1ab : u_T := fun k => match k with
  | _ => ("", "", "", false)
def tyJxab1ab : Nat → FieldType := fun k => match k with
  | _ => .int
abbrev wsJxab1ab0 : List Cond := u_ws RJxab1ab TJxab1ab 0
theorem nmJxab1ab : ∀ a, a < 0 → ∀ b, b < 0 → a ≠ b → (TJxab1ab a).2.1 ≠ (TJxab1ab b).2.1 := by decide +kernel
theorem tyJxab1ab_ok : ∀ k, k < 0 → parseFieldDescriptor (TJxab1ab k).2.2.1 = some (tyJxab1ab k) := by decide +kernel
def RJ9 : String := "java/lang/Math"
def TJ9 : u_T := fun k => match k with
  | _ => ("", "", "", false)
def tyJ9 : Nat → FieldType := fun k => match k with
  | _ => .int
abbrev wsJ90 : List Cond := u_ws RJ9 TJ9 0
theorem nmJ9 : ∀ a, a < 0 → ∀ b, b < 0 → a ≠ b → (TJ9 a).2.1 ≠ (TJ9 b).2.1 := by decide +kernel
theorem tyJ9_ok : ∀ k, k < 0 → parseFieldDescriptor (TJ9 k).2.2.1 = some (tyJ9 k) := by decide +kernel
abbrev cJ9_max_7cf53 : ByteArray := prog_20_method_65_code
def yJ9_max_7cf53 : MethodName := ⟨RJ9, "max", "(II)I"⟩
abbrev cJ9_min_7cf53 : ByteArray := prog_20_method_69_code
def yJ9_min_7cf53 : MethodName := ⟨RJ9, "min", "(II)I"⟩
def RJ0 : String := "java/lang/String"
def TJ0 : u_T := fun k => match k with
  | _ => ("", "", "", false)
def tyJ0 : Nat → FieldType := fun k => match k with
  | _ => .int
abbrev wsJ00 : List Cond := u_ws RJ0 TJ0 0
theorem nmJ0 : ∀ a, a < 0 → ∀ b, b < 0 → a ≠ b → (TJ0 a).2.1 ≠ (TJ0 b).2.1 := by decide +kernel
theorem tyJ0_ok : ∀ k, k < 0 → parseFieldDescriptor (TJ0 k).2.2.1 = some (tyJ0 k) := by decide +kernel
def RJ10 : String := "java/lang/System"
def TJ10 : u_T := fun k => match k with
  | _ => ("", "", "", false)
def tyJ10 : Nat → FieldType := fun k => match k with
  | _ => .int
abbrev wsJ100 : List Cond := u_ws RJ10 TJ10 0
theorem nmJ10 : ∀ a, a < 0 → ∀ b, b < 0 → a ≠ b → (TJ10 a).2.1 ≠ (TJ10 b).2.1 := by decide +kernel
theorem tyJ10_ok : ∀ k, k < 0 → parseFieldDescriptor (TJ10 k).2.2.1 = some (tyJ10 k) := by decide +kernel
def RJxa1e45 : String := "java/util/AbstractCollection"
def TJxa1e45 : u_T := fun k => match k with
  | _ => ("", "", "", false)
def tyJxa1e45 : Nat → FieldType := fun k => match k with
  | _ => .int
abbrev wsJxa1e450 : List Cond := u_ws RJxa1e45 TJxa1e45 0
theorem nmJxa1e45 : ∀ a, a < 0 → ∀ b, b < 0 → a ≠ b → (TJxa1e45 a).2.1 ≠ (TJxa1e45 b).2.1 := by decide +kernel
theorem tyJxa1e45_ok : ∀ k, k < 0 → parseFieldDescriptor (TJxa1e45 k).2.2.1 = some (tyJxa1e45 k) := by decide +kernel
abbrev cJxa1e45_init_da8c8 : ByteArray := prog_25_method_1_code
def yJxa1e45_init_da8c8 : MethodName := ⟨RJxa1e45, "<init>", "()V"⟩
def RJxc12de : String := "java/util/AbstractList"
def TJxc12de : u_T := fun k => match k with
  | _ => ("", "", "", false)
def tyJxc12de : Nat → FieldType := fun k => match k with
  | _ => .int
abbrev wsJxc12de0 : List Cond := u_ws RJxc12de TJxc12de 0
theorem nmJxc12de : ∀ a, a < 0 → ∀ b, b < 0 → a ≠ b → (TJxc12de a).2.1 ≠ (TJxc12de b).2.1 := by decide +kernel
theorem tyJxc12de_ok : ∀ k, k < 0 → parseFieldDescriptor (TJxc12de k).2.2.1 = some (tyJxc12de k) := by decide +kernel
abbrev cJxc12de_init_da8c8 : ByteArray := prog_26_method_1_code
def yJxc12de_init_da8c8 : MethodName := ⟨RJxc12de, "<init>", "()V"⟩
def RJx4a65c : String := "java/util/ArrayList"
def TJx4a65c : u_T := fun k => match k with
  | 0 => ("java/util/AbstractList", "modCount", "I", false)
  | 1 => ("java/util/ArrayList", "elementData", "[Ljava/lang/Object;", false)
  | _ => ("java/util/ArrayList", "size", "I", false)
def tyJx4a65c : Nat → FieldType := fun k => match k with
  | 0 => .int
  | 1 => .array (.object "java/lang/Object")
  | _ => .int
abbrev wsJx4a65c0 : List Cond := u_ws RJx4a65c TJx4a65c 3
theorem nmJx4a65c : ∀ a, a < 3 → ∀ b, b < 3 → a ≠ b → (TJx4a65c a).2.1 ≠ (TJx4a65c b).2.1 := by decide +kernel
theorem tyJx4a65c_ok : ∀ k, k < 3 → parseFieldDescriptor (TJx4a65c k).2.2.1 = some (tyJx4a65c k) := by decide +kernel
abbrev cJx4a65c_init_da8c8 : ByteArray := prog_27_method_2_code
def yJx4a65c_init_da8c8 : MethodName := ⟨RJx4a65c, "<init>", "()V"⟩
abbrev cJx4a65c_grow_92f84 : ByteArray := prog_27_method_6_code
def yJx4a65c_grow_92f84 : MethodName := ⟨RJx4a65c, "grow", "(I)[Ljava/lang/Object;"⟩
abbrev cJx4a65c_grow_d5877 : ByteArray := prog_27_method_7_code
def yJx4a65c_grow_d5877 : MethodName := ⟨RJx4a65c, "grow", "()[Ljava/lang/Object;"⟩
abbrev cJx4a65c_size_8abf5 : ByteArray := prog_27_method_8_code
def yJx4a65c_size_8abf5 : MethodName := ⟨RJx4a65c, "size", "()I"⟩
abbrev cJx4a65c_elementData_915e3 : ByteArray := prog_27_method_18_code
def yJx4a65c_elementData_915e3 : MethodName := ⟨RJx4a65c, "elementData", "(I)Ljava/lang/Object;"⟩
abbrev cJx4a65c_get_915e3 : ByteArray := prog_27_method_20_code
def yJx4a65c_get_915e3 : MethodName := ⟨RJx4a65c, "get", "(I)Ljava/lang/Object;"⟩
abbrev cJx4a65c_add_72be8 : ByteArray := prog_27_method_24_code
def yJx4a65c_add_72be8 : MethodName := ⟨RJx4a65c, "add", "(Ljava/lang/Object;[Ljava/lang/Object;I)V"⟩
abbrev cJx4a65c_add_9ea2d : ByteArray := prog_27_method_25_code
def yJx4a65c_add_9ea2d : MethodName := ⟨RJx4a65c, "add", "(Ljava/lang/Object;)Z"⟩
def RJ7 : String := "java/util/Arrays"
def TJ7 : u_T := fun k => match k with
  | _ => ("", "", "", false)
def tyJ7 : Nat → FieldType := fun k => match k with
  | _ => .int
abbrev wsJ70 : List Cond := u_ws RJ7 TJ7 0
theorem nmJ7 : ∀ a, a < 0 → ∀ b, b < 0 → a ≠ b → (TJ7 a).2.1 ≠ (TJ7 b).2.1 := by decide +kernel
theorem tyJ7_ok : ∀ k, k < 0 → parseFieldDescriptor (TJ7 k).2.2.1 = some (tyJ7 k) := by decide +kernel
abbrev cJ7_copyOf_1904c : ByteArray := prog_28_method_119_code
def yJ7_copyOf_1904c : MethodName := ⟨RJ7, "copyOf", "([Ljava/lang/Object;I)[Ljava/lang/Object;"⟩
abbrev cJ7_copyOf_6403c : ByteArray := prog_28_method_120_code
def yJ7_copyOf_6403c : MethodName := ⟨RJ7, "copyOf", "([Ljava/lang/Object;ILjava/lang/Class;)[Ljava/lang/Object;"⟩
abbrev cJ7_copyOf_9075b : ByteArray := prog_28_method_121_code
def yJ7_copyOf_9075b : MethodName := ⟨RJ7, "copyOf", "([BI)[B"⟩
abbrev cJ7_copyOf_59c91 : ByteArray := prog_28_method_123_code
def yJ7_copyOf_59c91 : MethodName := ⟨RJ7, "copyOf", "([II)[I"⟩
def RJx5ef63 : String := "java/util/Collection"
def TJx5ef63 : u_T := fun k => match k with
  | _ => ("", "", "", false)
def tyJx5ef63 : Nat → FieldType := fun k => match k with
  | _ => .int
abbrev wsJx5ef630 : List Cond := u_ws RJx5ef63 TJx5ef63 0
theorem nmJx5ef63 : ∀ a, a < 0 → ∀ b, b < 0 → a ≠ b → (TJx5ef63 a).2.1 ≠ (TJx5ef63 b).2.1 := by decide +kernel
theorem tyJx5ef63_ok : ∀ k, k < 0 → parseFieldDescriptor (TJx5ef63 k).2.2.1 = some (tyJx5ef63 k) := by decide +kernel
def RJxbd725 : String := "java/util/List"
def TJxbd725 : u_T := fun k => match k with
  | _ => ("", "", "", false)
def tyJxbd725 : Nat → FieldType := fun k => match k with
  | _ => .int
abbrev wsJxbd7250 : List Cond := u_ws RJxbd725 TJxbd725 0
theorem nmJxbd725 : ∀ a, a < 0 → ∀ b, b < 0 → a ≠ b → (TJxbd725 a).2.1 ≠ (TJxbd725 b).2.1 := by decide +kernel
theorem tyJxbd725_ok : ∀ k, k < 0 → parseFieldDescriptor (TJxbd725 k).2.2.1 = some (tyJxbd725 k) := by decide +kernel
def RJ15 : String := "java/util/Objects"
def TJ15 : u_T := fun k => match k with
  | _ => ("", "", "", false)
def tyJ15 : Nat → FieldType := fun k => match k with
  | _ => .int
abbrev wsJ150 : List Cond := u_ws RJ15 TJ15 0
theorem nmJ15 : ∀ a, a < 0 → ∀ b, b < 0 → a ≠ b → (TJ15 a).2.1 ≠ (TJ15 b).2.1 := by decide +kernel
theorem tyJ15_ok : ∀ k, k < 0 → parseFieldDescriptor (TJ15 k).2.2.1 = some (tyJ15 k) := by decide +kernel
abbrev cJ15_checkIndex_7cf53 : ByteArray := prog_31_method_17_code
def yJ15_checkIndex_7cf53 : MethodName := ⟨RJ15, "checkIndex", "(II)I"⟩
def RJxf0a74 : String := "java/util/RandomAccess"
def TJxf0a74 : u_T := fun k => match k with
  | _ => ("", "", "", false)
def tyJxf0a74 : Nat → FieldType := fun k => match k with
  | _ => .int
abbrev wsJxf0a740 : List Cond := u_ws RJxf0a74 TJxf0a74 0
theorem nmJxf0a74 : ∀ a, a < 0 → ∀ b, b < 0 → a ≠ b → (TJxf0a74 a).2.1 ≠ (TJxf0a74 b).2.1 := by decide +kernel
theorem tyJxf0a74_ok : ∀ k, k < 0 → parseFieldDescriptor (TJxf0a74 k).2.2.1 = some (tyJxf0a74 k) := by decide +kernel
def RJxa66e6 : String := "java/util/SequencedCollection"
def TJxa66e6 : u_T := fun k => match k with
  | _ => ("", "", "", false)
def tyJxa66e6 : Nat → FieldType := fun k => match k with
  | _ => .int
abbrev wsJxa66e60 : List Cond := u_ws RJxa66e6 TJxa66e6 0
theorem nmJxa66e6 : ∀ a, a < 0 → ∀ b, b < 0 → a ≠ b → (TJxa66e6 a).2.1 ≠ (TJxa66e6 b).2.1 := by decide +kernel
theorem tyJxa66e6_ok : ∀ k, k < 0 → parseFieldDescriptor (TJxa66e6 k).2.2.1 = some (tyJxa66e6 k) := by decide +kernel
def RJ8 : String := "jdk/internal/util/ArraysSupport"
def TJ8 : u_T := fun k => match k with
  | _ => ("", "", "", false)
def tyJ8 : Nat → FieldType := fun k => match k with
  | _ => .int
abbrev wsJ80 : List Cond := u_ws RJ8 TJ8 0
theorem nmJ8 : ∀ a, a < 0 → ∀ b, b < 0 → a ≠ b → (TJ8 a).2.1 ≠ (TJ8 b).2.1 := by decide +kernel
theorem tyJ8_ok : ∀ k, k < 0 → parseFieldDescriptor (TJ8 k).2.2.1 = some (tyJ8 k) := by decide +kernel
abbrev cJ8_newLength_cabcc : ByteArray := prog_34_method_27_code
def yJ8_newLength_cabcc : MethodName := ⟨RJ8, "newLength", "(III)I"⟩
abbrev cJ8_hugeLength_7cf53 : ByteArray := prog_34_method_28_code
def yJ8_hugeLength_7cf53 : MethodName := ⟨RJ8, "hugeLength", "(II)I"⟩
def RJ3 : String := "jdk/internal/util/Preconditions"
def TJ3 : u_T := fun k => match k with
  | _ => ("", "", "", false)
def tyJ3 : Nat → FieldType := fun k => match k with
  | _ => .int
abbrev wsJ30 : List Cond := u_ws RJ3 TJ3 0
theorem nmJ3 : ∀ a, a < 0 → ∀ b, b < 0 → a ≠ b → (TJ3 a).2.1 ≠ (TJ3 b).2.1 := by decide +kernel
theorem tyJ3_ok : ∀ k, k < 0 → parseFieldDescriptor (TJ3 k).2.2.1 = some (tyJ3 k) := by decide +kernel
abbrev cJ3_checkIndex_8e157 : ByteArray := prog_35_method_11_code
def yJ3_checkIndex_8e157 : MethodName := ⟨RJ3, "checkIndex", "(IILjava/util/function/BiFunction;)I"⟩
def RL : String := "CourtMailLaw"
abbrev cL_feed : ByteArray := method_3_code
def yL_feed : MethodName := ⟨RL, "feed", "(LCourtMail;IIIII[J)I"⟩
abbrev cL_trim : ByteArray := method_4_code
def yL_trim : MethodName := ⟨RL, "trim", "(LCourtMail;I[J)I"⟩
abbrev cL_file : ByteArray := method_5_code
def yL_file : MethodName := ⟨RL, "file", "(LCourtMail;I[J)I"⟩
abbrev cL_veil : ByteArray := method_6_code
def yL_veil : MethodName := ⟨RL, "veil", "(LCourtMail;IIII[J)I"⟩
abbrev cL_document : ByteArray := method_7_code
def yL_document : MethodName := ⟨RL, "document", "(LCourtMail;II[J)I"⟩
abbrev cL_open : ByteArray := method_8_code
def yL_open : MethodName := ⟨RL, "open", "(LCourtMail;I[J)I"⟩
abbrev cL_seal : ByteArray := method_9_code
def yL_seal : MethodName := ⟨RL, "seal", "(LCourtMail;II[J)I"⟩
abbrev cL_addPerson : ByteArray := method_10_code
def yL_addPerson : MethodName := ⟨RL, "addPerson", "(LCourtMail;II[J)I"⟩
abbrev cL_attach : ByteArray := method_11_code
def yL_attach : MethodName := ⟨RL, "attach", "(LCourtMail;II[J)I"⟩
abbrev cL_person : ByteArray := method_12_code
def yL_person : MethodName := ⟨RL, "person", "(LCourtMail;II[J)I"⟩
abbrev cL_caseOf : ByteArray := method_13_code
def yL_caseOf : MethodName := ⟨RL, "caseOf", "(LCourtMail;II[J)I"⟩
abbrev cL_read : ByteArray := method_14_code
def yL_read : MethodName := ⟨RL, "read", "(LCourtMail;II[J)I"⟩
abbrev cL_byteAt : ByteArray := method_15_code
def yL_byteAt : MethodName := ⟨RL, "byteAt", "(LCourtMail;I[J)I"⟩
abbrev cL_hidden : ByteArray := method_16_code
def yL_hidden : MethodName := ⟨RL, "hidden", "(LCourtMail;II[J)I"⟩
abbrev cL_differs : ByteArray := method_17_code
def yL_differs : MethodName := ⟨RL, "differs", "(LCourtMail;III[J)I"⟩
abbrev cL_find : ByteArray := method_18_code
def yL_find : MethodName := ⟨RL, "find", "(LCourtMail;II[J)I"⟩
abbrev cL_least : ByteArray := method_19_code
def yL_least : MethodName := ⟨RL, "least", "(LCourtMail;III[J)I"⟩
abbrev cL_lend : ByteArray := method_20_code
def yL_lend : MethodName := ⟨RL, "lend", "(LCourtMail;III[J)I"⟩
abbrev cL_back : ByteArray := method_21_code
def yL_back : MethodName := ⟨RL, "back", "(LCourtMail;I[J)I"⟩
abbrev cL_takeIn : ByteArray := method_22_code
def yL_takeIn : MethodName := ⟨RL, "takeIn", "(LCourtMail;I[J)I"⟩
abbrev cL_hand : ByteArray := method_23_code
def yL_hand : MethodName := ⟨RL, "hand", "(LCourtMail;II[J)I"⟩
abbrev cL_unseal : ByteArray := method_24_code
def yL_unseal : MethodName := ⟨RL, "unseal", "(LCourtMail;I[J)I"⟩
abbrev cL_lose : ByteArray := method_25_code
def yL_lose : MethodName := ⟨RL, "lose", "(LCourtMail;I[J)I"⟩
abbrev cL_found : ByteArray := method_26_code
def yL_found : MethodName := ⟨RL, "found", "(LCourtMail;II[J)I"⟩
abbrev cL_exhibit : ByteArray := method_27_code
def yL_exhibit : MethodName := ⟨RL, "exhibit", "(LCourtMail;II[J)I"⟩
abbrev cL_link : ByteArray := method_28_code
def yL_link : MethodName := ⟨RL, "link", "(LCourtMail;III[J)I"⟩
abbrev cL_send : ByteArray := method_29_code
def yL_send : MethodName := ⟨RL, "send", "(LCourtMail;III[J)I"⟩
abbrev cL_letter : ByteArray := method_30_code
def yL_letter : MethodName := ⟨RL, "letter", "(LCourtMail;II[J)I"⟩
abbrev cL_pass : ByteArray := method_31_code
def yL_pass : MethodName := ⟨RL, "pass", "(LCourtMail;I[J)I"⟩
abbrev cL_arrives : ByteArray := method_32_code
def yL_arrives : MethodName := ⟨RL, "arrives", "(LCourtMail;I[J)I"⟩
abbrev cL_count : ByteArray := method_33_code
def yL_count : MethodName := ⟨RL, "count", "(LCourtMail;I[J)I"⟩
abbrev cL_sees : ByteArray := method_34_code
def yL_sees : MethodName := ⟨RL, "sees", "(LCourtMail;I[J)I"⟩
abbrev cL_law : ByteArray := code
def yL_law : MethodName := ⟨RL, "law", "([I)Z"⟩
abbrev vwCl : List vw_C := [(RJx4a65c, TJx4a65c, 3), (RX0, TX0, 2), (RX1, TX1, 8), (RX2, TX2, 14), (RX3, TX3, 6), (RX4, TX4, 6), (RX5, TX5, 4), (RX6, TX6, 5), (RX7, TX7, 12), (RX8, TX8, 9), (RX9, TX9, 35)]
end
section
theorem dX0_init_0 : decode cX0_init 0 = .ok (.aload_n 0, 1) := by decide +kernel
theorem dX0_init_1 : decode cX0_init 1 = .ok (.invokespecial 1, 3) := by decide +kernel
theorem dX0_init_4 : decode cX0_init 4 = .ok (.aload_n 0, 1) := by decide +kernel
theorem dX0_init_5 : decode cX0_init 5 = .ok (.iload_n 1, 1) := by decide +kernel
theorem dX0_init_6 : decode cX0_init 6 = .ok (.putfield 7, 3) := by decide +kernel
theorem dX0_init_9 : decode cX0_init 9 = .ok (.aload_n 0, 1) := by decide +kernel
theorem dX0_init_10 : decode cX0_init 10 = .ok (.iload_n 2, 1) := by decide +kernel
theorem dX0_init_11 : decode cX0_init 11 = .ok (.putfield 13, 3) := by decide +kernel
theorem dX0_init_14 : decode cX0_init 14 = .ok (.return_, 1) := by decide +kernel
theorem dX1_init_0 : decode cX1_init 0 = .ok (.aload_n 0, 1) := by decide +kernel
theorem dX1_init_1 : decode cX1_init 1 = .ok (.invokespecial 3, 3) := by decide +kernel
theorem dX1_init_4 : decode cX1_init 4 = .ok (.aload_n 0, 1) := by decide +kernel
theorem dX1_init_5 : decode cX1_init 5 = .ok (.aconst_null, 1) := by decide +kernel
theorem dX1_init_6 : decode cX1_init 6 = .ok (.putfield 9, 3) := by decide +kernel
theorem dX1_init_9 : decode cX1_init 9 = .ok (.aload_n 0, 1) := by decide +kernel
theorem dX1_init_10 : decode cX1_init 10 = .ok (.iconst (-1), 1) := by decide +kernel
theorem dX1_init_11 : decode cX1_init 11 = .ok (.putfield 15, 3) := by decide +kernel
theorem dX1_init_14 : decode cX1_init 14 = .ok (.aload_n 0, 1) := by decide +kernel
theorem dX1_init_15 : decode cX1_init 15 = .ok (.iconst 0, 1) := by decide +kernel
theorem dX1_init_16 : decode cX1_init 16 = .ok (.putfield 19, 3) := by decide +kernel
theorem dX1_init_19 : decode cX1_init 19 = .ok (.aload_n 0, 1) := by decide +kernel
theorem dX1_init_20 : decode cX1_init 20 = .ok (.aload_n 1, 1) := by decide +kernel
theorem dX1_init_21 : decode cX1_init 21 = .ok (.putfield 22, 3) := by decide +kernel
theorem dX1_init_24 : decode cX1_init 24 = .ok (.aload_n 0, 1) := by decide +kernel
theorem dX1_init_25 : decode cX1_init 25 = .ok (.aload_n 2, 1) := by decide +kernel
theorem dX1_init_26 : decode cX1_init 26 = .ok (.getfield 26, 3) := by decide +kernel
theorem dX1_init_29 : decode cX1_init 29 = .ok (.aload_n 2, 1) := by decide +kernel
theorem dX1_init_30 : decode cX1_init 30 = .ok (.getfield 32, 3) := by decide +kernel
theorem dX1_init_33 : decode cX1_init 33 = .ok (.invokestatic 35, 3) := by decide +kernel
theorem dX1_init_36 : decode cX1_init 36 = .ok (.putfield 39, 3) := by decide +kernel
theorem dX1_init_39 : decode cX1_init 39 = .ok (.aload_n 0, 1) := by decide +kernel
theorem dX1_init_40 : decode cX1_init 40 = .ok (.aload_n 2, 1) := by decide +kernel
theorem dX1_init_41 : decode cX1_init 41 = .ok (.getfield 40, 3) := by decide +kernel
theorem dX1_init_44 : decode cX1_init 44 = .ok (.aload_n 2, 1) := by decide +kernel
theorem dX1_init_45 : decode cX1_init 45 = .ok (.getfield 32, 3) := by decide +kernel
theorem dX1_init_48 : decode cX1_init 48 = .ok (.invokestatic 35, 3) := by decide +kernel
theorem dX1_init_51 : decode cX1_init 51 = .ok (.putfield 43, 3) := by decide +kernel
theorem dX1_init_54 : decode cX1_init 54 = .ok (.aload_n 0, 1) := by decide +kernel
theorem dX1_init_55 : decode cX1_init 55 = .ok (.aload_n 2, 1) := by decide +kernel
theorem dX1_init_56 : decode cX1_init 56 = .ok (.getfield 44, 3) := by decide +kernel
theorem dX1_init_59 : decode cX1_init 59 = .ok (.aload_n 2, 1) := by decide +kernel
theorem dX1_init_60 : decode cX1_init 60 = .ok (.getfield 32, 3) := by decide +kernel
theorem dX1_init_63 : decode cX1_init 63 = .ok (.invokestatic 35, 3) := by decide +kernel
theorem dX1_init_66 : decode cX1_init 66 = .ok (.putfield 47, 3) := by decide +kernel
theorem dX1_init_69 : decode cX1_init 69 = .ok (.aload_n 0, 1) := by decide +kernel
theorem dX1_init_70 : decode cX1_init 70 = .ok (.aload_n 2, 1) := by decide +kernel
theorem dX1_init_71 : decode cX1_init 71 = .ok (.getfield 48, 3) := by decide +kernel
theorem dX1_init_74 : decode cX1_init 74 = .ok (.putfield 51, 3) := by decide +kernel
theorem dX1_init_77 : decode cX1_init 77 = .ok (.return_, 1) := by decide +kernel
theorem dX1_firstOf_0 : decode cX1_firstOf 0 = .ok (.aload_n 0, 1) := by decide +kernel
theorem dX1_firstOf_1 : decode cX1_firstOf 1 = .ok (.iconst 0, 1) := by decide +kernel
theorem dX1_firstOf_2 : decode cX1_firstOf 2 = .ok (.iload_n 1, 1) := by decide +kernel
theorem dX1_firstOf_3 : decode cX1_firstOf 3 = .ok (.aload_n 0, 1) := by decide +kernel
theorem dX1_firstOf_4 : decode cX1_firstOf 4 = .ok (.arraylength, 1) := by decide +kernel
theorem dX1_firstOf_5 : decode cX1_firstOf 5 = .ok (.invokestatic 52, 3) := by decide +kernel
theorem dX1_firstOf_8 : decode cX1_firstOf 8 = .ok (.invokestatic 58, 3) := by decide +kernel
theorem dX1_firstOf_11 : decode cX1_firstOf 11 = .ok (.invokestatic 61, 3) := by decide +kernel
theorem dX1_firstOf_14 : decode cX1_firstOf 14 = .ok (.areturn, 1) := by decide +kernel
theorem dX1_hasRange_0 : decode cX1_hasRange 0 = .ok (.iload_n 1, 1) := by decide +kernel
theorem dX1_hasRange_1 : decode cX1_hasRange 1 = .ok (.ifCond .lt 21, 3) := by decide +kernel
theorem dX1_hasRange_4 : decode cX1_hasRange 4 = .ok (.iload_n 1, 1) := by decide +kernel
theorem dX1_hasRange_5 : decode cX1_hasRange 5 = .ok (.iload_n 2, 1) := by decide +kernel
theorem dX1_hasRange_6 : decode cX1_hasRange 6 = .ok (.if_icmp .gt 16, 3) := by decide +kernel
theorem dX1_hasRange_9 : decode cX1_hasRange 9 = .ok (.iload_n 2, 1) := by decide +kernel
theorem dX1_hasRange_10 : decode cX1_hasRange 10 = .ok (.aload_n 0, 1) := by decide +kernel
theorem dX1_hasRange_11 : decode cX1_hasRange 11 = .ok (.getfield 39, 3) := by decide +kernel
theorem dX1_hasRange_14 : decode cX1_hasRange 14 = .ok (.arraylength, 1) := by decide +kernel
theorem dX1_hasRange_15 : decode cX1_hasRange 15 = .ok (.if_icmp .gt 7, 3) := by decide +kernel
theorem dX1_hasRange_18 : decode cX1_hasRange 18 = .ok (.iconst 1, 1) := by decide +kernel
theorem dX1_hasRange_19 : decode cX1_hasRange 19 = .ok (.goto 4, 3) := by decide +kernel
theorem dX1_hasRange_22 : decode cX1_hasRange 22 = .ok (.iconst 0, 1) := by decide +kernel
theorem dX1_hasRange_23 : decode cX1_hasRange 23 = .ok (.ireturn, 1) := by decide +kernel
theorem dX1_seenAt_0 : decode cX1_seenAt 0 = .ok (.iload_n 2, 1) := by decide +kernel
theorem dX1_seenAt_1 : decode cX1_seenAt 1 = .ok (.iconst (-1), 1) := by decide +kernel
theorem dX1_seenAt_2 : decode cX1_seenAt 2 = .ok (.if_icmp .eq 34, 3) := by decide +kernel
theorem dX1_seenAt_5 : decode cX1_seenAt 5 = .ok (.iload_n 1, 1) := by decide +kernel
theorem dX1_seenAt_6 : decode cX1_seenAt 6 = .ok (.ifCond .lt 30, 3) := by decide +kernel
theorem dX1_seenAt_9 : decode cX1_seenAt 9 = .ok (.iload_n 1, 1) := by decide +kernel
theorem dX1_seenAt_10 : decode cX1_seenAt 10 = .ok (.aload_n 0, 1) := by decide +kernel
theorem dX1_seenAt_11 : decode cX1_seenAt 11 = .ok (.getfield 39, 3) := by decide +kernel
theorem dX1_seenAt_14 : decode cX1_seenAt 14 = .ok (.arraylength, 1) := by decide +kernel
theorem dX1_seenAt_15 : decode cX1_seenAt 15 = .ok (.if_icmp .ge 21, 3) := by decide +kernel
theorem dX1_seenAt_18 : decode cX1_seenAt 18 = .ok (.iload_n 1, 1) := by decide +kernel
theorem dX1_seenAt_19 : decode cX1_seenAt 19 = .ok (.aload_n 0, 1) := by decide +kernel
theorem dX1_seenAt_20 : decode cX1_seenAt 20 = .ok (.getfield 43, 3) := by decide +kernel
theorem dX1_seenAt_23 : decode cX1_seenAt 23 = .ok (.arraylength, 1) := by decide +kernel
theorem dX1_seenAt_24 : decode cX1_seenAt 24 = .ok (.if_icmp .ge 12, 3) := by decide +kernel
theorem dX1_seenAt_27 : decode cX1_seenAt 27 = .ok (.iload_n 1, 1) := by decide +kernel
theorem dX1_seenAt_28 : decode cX1_seenAt 28 = .ok (.aload_n 0, 1) := by decide +kernel
theorem dX1_seenAt_29 : decode cX1_seenAt 29 = .ok (.getfield 47, 3) := by decide +kernel
theorem dX1_seenAt_32 : decode cX1_seenAt 32 = .ok (.arraylength, 1) := by decide +kernel
theorem dX1_seenAt_33 : decode cX1_seenAt 33 = .ok (.if_icmp .lt 5, 3) := by decide +kernel
theorem dX1_seenAt_36 : decode cX1_seenAt 36 = .ok (.iconst 0, 1) := by decide +kernel
theorem dX1_seenAt_37 : decode cX1_seenAt 37 = .ok (.ireturn, 1) := by decide +kernel
theorem dX1_seenAt_38 : decode cX1_seenAt 38 = .ok (.aload_n 0, 1) := by decide +kernel
theorem dX1_seenAt_39 : decode cX1_seenAt 39 = .ok (.getfield 39, 3) := by decide +kernel
theorem dX1_seenAt_42 : decode cX1_seenAt 42 = .ok (.iload_n 1, 1) := by decide +kernel
theorem dX1_seenAt_43 : decode cX1_seenAt 43 = .ok (.baload, 1) := by decide +kernel
theorem dX1_seenAt_44 : decode cX1_seenAt 44 = .ok (.bipush 10, 2) := by decide +kernel
theorem dX1_seenAt_46 : decode cX1_seenAt 46 = .ok (.if_icmp .ne 6, 3) := by decide +kernel
theorem dX1_seenAt_49 : decode cX1_seenAt 49 = .ok (.bipush 10, 2) := by decide +kernel
theorem dX1_seenAt_51 : decode cX1_seenAt 51 = .ok (.ireturn, 1) := by decide +kernel
theorem dX1_seenAt_52 : decode cX1_seenAt 52 = .ok (.aload_n 0, 1) := by decide +kernel
theorem dX1_seenAt_53 : decode cX1_seenAt 53 = .ok (.getfield 43, 3) := by decide +kernel
theorem dX1_seenAt_56 : decode cX1_seenAt 56 = .ok (.iload_n 1, 1) := by decide +kernel
theorem dX1_seenAt_57 : decode cX1_seenAt 57 = .ok (.baload, 1) := by decide +kernel
theorem dX1_seenAt_58 : decode cX1_seenAt 58 = .ok (.iload_n 2, 1) := by decide +kernel
theorem dX1_seenAt_59 : decode cX1_seenAt 59 = .ok (.if_icmp .le 6, 3) := by decide +kernel
theorem dX1_seenAt_62 : decode cX1_seenAt 62 = .ok (.bipush 35, 2) := by decide +kernel
theorem dX1_seenAt_64 : decode cX1_seenAt 64 = .ok (.ireturn, 1) := by decide +kernel
theorem dX1_seenAt_65 : decode cX1_seenAt 65 = .ok (.iload_n 2, 1) := by decide +kernel
theorem dX1_seenAt_66 : decode cX1_seenAt 66 = .ok (.ifCond .ne 18, 3) := by decide +kernel
theorem dX1_seenAt_69 : decode cX1_seenAt 69 = .ok (.aload_n 0, 1) := by decide +kernel
theorem dX1_seenAt_70 : decode cX1_seenAt 70 = .ok (.getfield 47, 3) := by decide +kernel
theorem dX1_seenAt_73 : decode cX1_seenAt 73 = .ok (.iload_n 1, 1) := by decide +kernel
theorem dX1_seenAt_74 : decode cX1_seenAt 74 = .ok (.baload, 1) := by decide +kernel
theorem dX1_seenAt_75 : decode cX1_seenAt 75 = .ok (.iconst 1, 1) := by decide +kernel
theorem dX1_seenAt_76 : decode cX1_seenAt 76 = .ok (.if_icmp .ne 8, 3) := by decide +kernel
theorem dX1_seenAt_79 : decode cX1_seenAt 79 = .ok (.bipush 42, 2) := by decide +kernel
theorem dX1_seenAt_81 : decode cX1_seenAt 81 = .ok (.goto 9, 3) := by decide +kernel
theorem dX1_seenAt_84 : decode cX1_seenAt 84 = .ok (.aload_n 0, 1) := by decide +kernel
theorem dX1_seenAt_85 : decode cX1_seenAt 85 = .ok (.getfield 39, 3) := by decide +kernel
theorem dX1_seenAt_88 : decode cX1_seenAt 88 = .ok (.iload_n 1, 1) := by decide +kernel
theorem dX1_seenAt_89 : decode cX1_seenAt 89 = .ok (.baload, 1) := by decide +kernel
theorem dX1_seenAt_90 : decode cX1_seenAt 90 = .ok (.ireturn, 1) := by decide +kernel
theorem dX1_countHidden_0 : decode cX1_countHidden 0 = .ok (.iconst 0, 1) := by decide +kernel
theorem dX1_countHidden_1 : decode cX1_countHidden 1 = .ok (.istore 4, 2) := by decide +kernel
theorem dX1_countHidden_3 : decode cX1_countHidden 3 = .ok (.iconst 0, 1) := by decide +kernel
theorem dX1_countHidden_4 : decode cX1_countHidden 4 = .ok (.iload_n 1, 1) := by decide +kernel
theorem dX1_countHidden_5 : decode cX1_countHidden 5 = .ok (.invokestatic 58, 3) := by decide +kernel
theorem dX1_countHidden_8 : decode cX1_countHidden 8 = .ok (.istore 5, 2) := by decide +kernel
theorem dX1_countHidden_10 : decode cX1_countHidden 10 = .ok (.iload 5, 2) := by decide +kernel
theorem dX1_countHidden_12 : decode cX1_countHidden 12 = .ok (.iload_n 2, 1) := by decide +kernel
theorem dX1_countHidden_13 : decode cX1_countHidden 13 = .ok (.if_icmp .ge 39, 3) := by decide +kernel
theorem dX1_countHidden_16 : decode cX1_countHidden 16 = .ok (.iload 5, 2) := by decide +kernel
theorem dX1_countHidden_18 : decode cX1_countHidden 18 = .ok (.aload_n 0, 1) := by decide +kernel
theorem dX1_countHidden_19 : decode cX1_countHidden 19 = .ok (.getfield 39, 3) := by decide +kernel
theorem dX1_countHidden_22 : decode cX1_countHidden 22 = .ok (.arraylength, 1) := by decide +kernel
theorem dX1_countHidden_23 : decode cX1_countHidden 23 = .ok (.if_icmp .ge 29, 3) := by decide +kernel
theorem dX1_countHidden_26 : decode cX1_countHidden 26 = .ok (.aload_n 0, 1) := by decide +kernel
theorem dX1_countHidden_27 : decode cX1_countHidden 27 = .ok (.iload 5, 2) := by decide +kernel
theorem dX1_countHidden_29 : decode cX1_countHidden 29 = .ok (.iload_n 3, 1) := by decide +kernel
theorem dX1_countHidden_30 : decode cX1_countHidden 30 = .ok (.invokevirtual 66, 3) := by decide +kernel
theorem dX1_countHidden_33 : decode cX1_countHidden 33 = .ok (.aload_n 0, 1) := by decide +kernel
theorem dX1_countHidden_34 : decode cX1_countHidden 34 = .ok (.getfield 39, 3) := by decide +kernel
theorem dX1_countHidden_37 : decode cX1_countHidden 37 = .ok (.iload 5, 2) := by decide +kernel
theorem dX1_countHidden_39 : decode cX1_countHidden 39 = .ok (.baload, 1) := by decide +kernel
theorem dX1_countHidden_40 : decode cX1_countHidden 40 = .ok (.if_icmp .eq 6, 3) := by decide +kernel
theorem dX1_countHidden_43 : decode cX1_countHidden 43 = .ok (.iinc 4 1, 3) := by decide +kernel
theorem dX1_countHidden_46 : decode cX1_countHidden 46 = .ok (.iinc 5 1, 3) := by decide +kernel
theorem dX1_countHidden_49 : decode cX1_countHidden 49 = .ok (.goto (-39), 3) := by decide +kernel
theorem dX1_countHidden_52 : decode cX1_countHidden 52 = .ok (.iload 4, 2) := by decide +kernel
theorem dX1_countHidden_54 : decode cX1_countHidden 54 = .ok (.ireturn, 1) := by decide +kernel
theorem dX1_setLevels_0 : decode cX1_setLevels 0 = .ok (.iconst 0, 1) := by decide +kernel
theorem dX1_setLevels_1 : decode cX1_setLevels 1 = .ok (.istore 4, 2) := by decide +kernel
theorem dX1_setLevels_3 : decode cX1_setLevels 3 = .ok (.iconst 0, 1) := by decide +kernel
theorem dX1_setLevels_4 : decode cX1_setLevels 4 = .ok (.iload_n 1, 1) := by decide +kernel
theorem dX1_setLevels_5 : decode cX1_setLevels 5 = .ok (.invokestatic 58, 3) := by decide +kernel
theorem dX1_setLevels_8 : decode cX1_setLevels 8 = .ok (.istore 5, 2) := by decide +kernel
theorem dX1_setLevels_10 : decode cX1_setLevels 10 = .ok (.iload 5, 2) := by decide +kernel
theorem dX1_setLevels_12 : decode cX1_setLevels 12 = .ok (.iload_n 2, 1) := by decide +kernel
theorem dX1_setLevels_13 : decode cX1_setLevels 13 = .ok (.if_icmp .ge 42, 3) := by decide +kernel
theorem dX1_setLevels_16 : decode cX1_setLevels 16 = .ok (.iload 5, 2) := by decide +kernel
theorem dX1_setLevels_18 : decode cX1_setLevels 18 = .ok (.aload_n 0, 1) := by decide +kernel
theorem dX1_setLevels_19 : decode cX1_setLevels 19 = .ok (.getfield 43, 3) := by decide +kernel
theorem dX1_setLevels_22 : decode cX1_setLevels 22 = .ok (.arraylength, 1) := by decide +kernel
theorem dX1_setLevels_23 : decode cX1_setLevels 23 = .ok (.if_icmp .ge 32, 3) := by decide +kernel
theorem dX1_setLevels_26 : decode cX1_setLevels 26 = .ok (.aload_n 0, 1) := by decide +kernel
theorem dX1_setLevels_27 : decode cX1_setLevels 27 = .ok (.getfield 43, 3) := by decide +kernel
theorem dX1_setLevels_30 : decode cX1_setLevels 30 = .ok (.iload 5, 2) := by decide +kernel
theorem dX1_setLevels_32 : decode cX1_setLevels 32 = .ok (.baload, 1) := by decide +kernel
theorem dX1_setLevels_33 : decode cX1_setLevels 33 = .ok (.iload_n 3, 1) := by decide +kernel
theorem dX1_setLevels_34 : decode cX1_setLevels 34 = .ok (.if_icmp .eq 15, 3) := by decide +kernel
theorem dX1_setLevels_37 : decode cX1_setLevels 37 = .ok (.aload_n 0, 1) := by decide +kernel
theorem dX1_setLevels_38 : decode cX1_setLevels 38 = .ok (.getfield 43, 3) := by decide +kernel
theorem dX1_setLevels_41 : decode cX1_setLevels 41 = .ok (.iload 5, 2) := by decide +kernel
theorem dX1_setLevels_43 : decode cX1_setLevels 43 = .ok (.iload_n 3, 1) := by decide +kernel
theorem dX1_setLevels_44 : decode cX1_setLevels 44 = .ok (.i2b, 1) := by decide +kernel
theorem dX1_setLevels_45 : decode cX1_setLevels 45 = .ok (.bastore, 1) := by decide +kernel
theorem dX1_setLevels_46 : decode cX1_setLevels 46 = .ok (.iinc 4 1, 3) := by decide +kernel
theorem dX1_setLevels_49 : decode cX1_setLevels 49 = .ok (.iinc 5 1, 3) := by decide +kernel
theorem dX1_setLevels_52 : decode cX1_setLevels 52 = .ok (.goto (-42), 3) := by decide +kernel
theorem dX1_setLevels_55 : decode cX1_setLevels 55 = .ok (.iload 4, 2) := by decide +kernel
theorem dX1_setLevels_57 : decode cX1_setLevels 57 = .ok (.ireturn, 1) := by decide +kernel
theorem dX1_countVeiled_0 : decode cX1_countVeiled 0 = .ok (.iconst 0, 1) := by decide +kernel
theorem dX1_countVeiled_1 : decode cX1_countVeiled 1 = .ok (.istore_n 1, 1) := by decide +kernel
theorem dX1_countVeiled_2 : decode cX1_countVeiled 2 = .ok (.iconst 0, 1) := by decide +kernel
theorem dX1_countVeiled_3 : decode cX1_countVeiled 3 = .ok (.istore_n 2, 1) := by decide +kernel
theorem dX1_countVeiled_4 : decode cX1_countVeiled 4 = .ok (.iload_n 2, 1) := by decide +kernel
theorem dX1_countVeiled_5 : decode cX1_countVeiled 5 = .ok (.aload_n 0, 1) := by decide +kernel
theorem dX1_countVeiled_6 : decode cX1_countVeiled 6 = .ok (.getfield 43, 3) := by decide +kernel
theorem dX1_countVeiled_9 : decode cX1_countVeiled 9 = .ok (.arraylength, 1) := by decide +kernel
theorem dX1_countVeiled_10 : decode cX1_countVeiled 10 = .ok (.if_icmp .ge 21, 3) := by decide +kernel
theorem dX1_countVeiled_13 : decode cX1_countVeiled 13 = .ok (.aload_n 0, 1) := by decide +kernel
theorem dX1_countVeiled_14 : decode cX1_countVeiled 14 = .ok (.getfield 43, 3) := by decide +kernel
theorem dX1_countVeiled_17 : decode cX1_countVeiled 17 = .ok (.iload_n 2, 1) := by decide +kernel
theorem dX1_countVeiled_18 : decode cX1_countVeiled 18 = .ok (.baload, 1) := by decide +kernel
theorem dX1_countVeiled_19 : decode cX1_countVeiled 19 = .ok (.ifCond .le 6, 3) := by decide +kernel
theorem dX1_countVeiled_22 : decode cX1_countVeiled 22 = .ok (.iinc 1 1, 3) := by decide +kernel
theorem dX1_countVeiled_25 : decode cX1_countVeiled 25 = .ok (.iinc 2 1, 3) := by decide +kernel
theorem dX1_countVeiled_28 : decode cX1_countVeiled 28 = .ok (.goto (-24), 3) := by decide +kernel
theorem dX1_countVeiled_31 : decode cX1_countVeiled 31 = .ok (.iload_n 1, 1) := by decide +kernel
theorem dX1_countVeiled_32 : decode cX1_countVeiled 32 = .ok (.ireturn, 1) := by decide +kernel
theorem dX1_greatestLevel_0 : decode cX1_greatestLevel 0 = .ok (.iconst 0, 1) := by decide +kernel
theorem dX1_greatestLevel_1 : decode cX1_greatestLevel 1 = .ok (.istore_n 1, 1) := by decide +kernel
theorem dX1_greatestLevel_2 : decode cX1_greatestLevel 2 = .ok (.iconst 0, 1) := by decide +kernel
theorem dX1_greatestLevel_3 : decode cX1_greatestLevel 3 = .ok (.istore_n 2, 1) := by decide +kernel
theorem dX1_greatestLevel_4 : decode cX1_greatestLevel 4 = .ok (.iload_n 2, 1) := by decide +kernel
theorem dX1_greatestLevel_5 : decode cX1_greatestLevel 5 = .ok (.aload_n 0, 1) := by decide +kernel
theorem dX1_greatestLevel_6 : decode cX1_greatestLevel 6 = .ok (.getfield 43, 3) := by decide +kernel
theorem dX1_greatestLevel_9 : decode cX1_greatestLevel 9 = .ok (.arraylength, 1) := by decide +kernel
theorem dX1_greatestLevel_10 : decode cX1_greatestLevel 10 = .ok (.if_icmp .ge 20, 3) := by decide +kernel
theorem dX1_greatestLevel_13 : decode cX1_greatestLevel 13 = .ok (.iload_n 1, 1) := by decide +kernel
theorem dX1_greatestLevel_14 : decode cX1_greatestLevel 14 = .ok (.aload_n 0, 1) := by decide +kernel
theorem dX1_greatestLevel_15 : decode cX1_greatestLevel 15 = .ok (.getfield 43, 3) := by decide +kernel
theorem dX1_greatestLevel_18 : decode cX1_greatestLevel 18 = .ok (.iload_n 2, 1) := by decide +kernel
theorem dX1_greatestLevel_19 : decode cX1_greatestLevel 19 = .ok (.baload, 1) := by decide +kernel
theorem dX1_greatestLevel_20 : decode cX1_greatestLevel 20 = .ok (.invokestatic 58, 3) := by decide +kernel
theorem dX1_greatestLevel_23 : decode cX1_greatestLevel 23 = .ok (.istore_n 1, 1) := by decide +kernel
theorem dX1_greatestLevel_24 : decode cX1_greatestLevel 24 = .ok (.iinc 2 1, 3) := by decide +kernel
theorem dX1_greatestLevel_27 : decode cX1_greatestLevel 27 = .ok (.goto (-23), 3) := by decide +kernel
theorem dX1_greatestLevel_30 : decode cX1_greatestLevel 30 = .ok (.iload_n 1, 1) := by decide +kernel
theorem dX1_greatestLevel_31 : decode cX1_greatestLevel 31 = .ok (.ireturn, 1) := by decide +kernel
theorem dX1_countMarked_0 : decode cX1_countMarked 0 = .ok (.iconst 0, 1) := by decide +kernel
theorem dX1_countMarked_1 : decode cX1_countMarked 1 = .ok (.istore_n 1, 1) := by decide +kernel
theorem dX1_countMarked_2 : decode cX1_countMarked 2 = .ok (.iconst 0, 1) := by decide +kernel
theorem dX1_countMarked_3 : decode cX1_countMarked 3 = .ok (.istore_n 2, 1) := by decide +kernel
theorem dX1_countMarked_4 : decode cX1_countMarked 4 = .ok (.iload_n 2, 1) := by decide +kernel
theorem dX1_countMarked_5 : decode cX1_countMarked 5 = .ok (.aload_n 0, 1) := by decide +kernel
theorem dX1_countMarked_6 : decode cX1_countMarked 6 = .ok (.getfield 47, 3) := by decide +kernel
theorem dX1_countMarked_9 : decode cX1_countMarked 9 = .ok (.arraylength, 1) := by decide +kernel
theorem dX1_countMarked_10 : decode cX1_countMarked 10 = .ok (.if_icmp .ge 18, 3) := by decide +kernel
theorem dX1_countMarked_13 : decode cX1_countMarked 13 = .ok (.iload_n 1, 1) := by decide +kernel
theorem dX1_countMarked_14 : decode cX1_countMarked 14 = .ok (.aload_n 0, 1) := by decide +kernel
theorem dX1_countMarked_15 : decode cX1_countMarked 15 = .ok (.getfield 47, 3) := by decide +kernel
theorem dX1_countMarked_18 : decode cX1_countMarked 18 = .ok (.iload_n 2, 1) := by decide +kernel
theorem dX1_countMarked_19 : decode cX1_countMarked 19 = .ok (.baload, 1) := by decide +kernel
theorem dX1_countMarked_20 : decode cX1_countMarked 20 = .ok (.iadd, 1) := by decide +kernel
theorem dX1_countMarked_21 : decode cX1_countMarked 21 = .ok (.istore_n 1, 1) := by decide +kernel
theorem dX1_countMarked_22 : decode cX1_countMarked 22 = .ok (.iinc 2 1, 3) := by decide +kernel
theorem dX1_countMarked_25 : decode cX1_countMarked 25 = .ok (.goto (-21), 3) := by decide +kernel
theorem dX1_countMarked_28 : decode cX1_countMarked 28 = .ok (.iload_n 1, 1) := by decide +kernel
theorem dX1_countMarked_29 : decode cX1_countMarked 29 = .ok (.ireturn, 1) := by decide +kernel
theorem dX1_writeLog_0 : decode cX1_writeLog 0 = .ok (.aload_n 0, 1) := by decide +kernel
theorem dX1_writeLog_1 : decode cX1_writeLog 1 = .ok (.dup, 1) := by decide +kernel
theorem dX1_writeLog_2 : decode cX1_writeLog 2 = .ok (.getfield 19, 3) := by decide +kernel
theorem dX1_writeLog_5 : decode cX1_writeLog 5 = .ok (.iconst 1, 1) := by decide +kernel
theorem dX1_writeLog_6 : decode cX1_writeLog 6 = .ok (.aload_n 1, 1) := by decide +kernel
theorem dX1_writeLog_7 : decode cX1_writeLog 7 = .ok (.getfield 69, 3) := by decide +kernel
theorem dX1_writeLog_10 : decode cX1_writeLog 10 = .ok (.ishl, 1) := by decide +kernel
theorem dX1_writeLog_11 : decode cX1_writeLog 11 = .ok (.ior, 1) := by decide +kernel
theorem dX1_writeLog_12 : decode cX1_writeLog 12 = .ok (.putfield 19, 3) := by decide +kernel
theorem dX1_writeLog_15 : decode cX1_writeLog 15 = .ok (.return_, 1) := by decide +kernel
theorem dX1_bringBack_0 : decode cX1_bringBack 0 = .ok (.aload_n 0, 1) := by decide +kernel
theorem dX1_bringBack_1 : decode cX1_bringBack 1 = .ok (.aconst_null, 1) := by decide +kernel
theorem dX1_bringBack_2 : decode cX1_bringBack 2 = .ok (.putfield 9, 3) := by decide +kernel
theorem dX1_bringBack_5 : decode cX1_bringBack 5 = .ok (.aload_n 0, 1) := by decide +kernel
theorem dX1_bringBack_6 : decode cX1_bringBack 6 = .ok (.iconst (-1), 1) := by decide +kernel
theorem dX1_bringBack_7 : decode cX1_bringBack 7 = .ok (.putfield 15, 3) := by decide +kernel
theorem dX1_bringBack_10 : decode cX1_bringBack 10 = .ok (.return_, 1) := by decide +kernel
theorem dX2_init_0 : decode cX2_init 0 = .ok (.aload_n 0, 1) := by decide +kernel
theorem dX2_init_1 : decode cX2_init 1 = .ok (.invokespecial 3, 3) := by decide +kernel
theorem dX2_init_4 : decode cX2_init 4 = .ok (.aload_n 0, 1) := by decide +kernel
theorem dX2_init_5 : decode cX2_init 5 = .ok (.sipush 2500, 3) := by decide +kernel
theorem dX2_init_8 : decode cX2_init 8 = .ok (.newarray .byte, 2) := by decide +kernel
theorem dX2_init_10 : decode cX2_init 10 = .ok (.putfield 9, 3) := by decide +kernel
theorem dX2_init_13 : decode cX2_init 13 = .ok (.aload_n 0, 1) := by decide +kernel
theorem dX2_init_14 : decode cX2_init 14 = .ok (.sipush 2500, 3) := by decide +kernel
theorem dX2_init_17 : decode cX2_init 17 = .ok (.newarray .byte, 2) := by decide +kernel
theorem dX2_init_19 : decode cX2_init 19 = .ok (.putfield 15, 3) := by decide +kernel
theorem dX2_init_22 : decode cX2_init 22 = .ok (.aload_n 0, 1) := by decide +kernel
theorem dX2_init_23 : decode cX2_init 23 = .ok (.sipush 2500, 3) := by decide +kernel
theorem dX2_init_26 : decode cX2_init 26 = .ok (.newarray .byte, 2) := by decide +kernel
theorem dX2_init_28 : decode cX2_init 28 = .ok (.putfield 18, 3) := by decide +kernel
theorem dX2_init_31 : decode cX2_init 31 = .ok (.aload_n 0, 1) := by decide +kernel
theorem dX2_init_32 : decode cX2_init 32 = .ok (.bipush 6, 2) := by decide +kernel
theorem dX2_init_34 : decode cX2_init 34 = .ok (.newarray .int, 2) := by decide +kernel
theorem dX2_init_36 : decode cX2_init 36 = .ok (.putfield 21, 3) := by decide +kernel
theorem dX2_init_39 : decode cX2_init 39 = .ok (.return_, 1) := by decide +kernel
theorem dX2_take_0 : decode cX2_take 0 = .ok (.aload_n 0, 1) := by decide +kernel
theorem dX2_take_1 : decode cX2_take 1 = .ok (.iload_n 3, 1) := by decide +kernel
theorem dX2_take_2 : decode cX2_take 2 = .ok (.invokevirtual 25, 3) := by decide +kernel
theorem dX2_take_5 : decode cX2_take 5 = .ok (.iconst 0, 1) := by decide +kernel
theorem dX2_take_6 : decode cX2_take 6 = .ok (.istore 4, 2) := by decide +kernel
theorem dX2_take_8 : decode cX2_take 8 = .ok (.iload 4, 2) := by decide +kernel
theorem dX2_take_10 : decode cX2_take 10 = .ok (.iload_n 2, 1) := by decide +kernel
theorem dX2_take_11 : decode cX2_take 11 = .ok (.if_icmp .ge 37, 3) := by decide +kernel
theorem dX2_take_14 : decode cX2_take 14 = .ok (.iload 4, 2) := by decide +kernel
theorem dX2_take_16 : decode cX2_take 16 = .ok (.aload_n 1, 1) := by decide +kernel
theorem dX2_take_17 : decode cX2_take 17 = .ok (.arraylength, 1) := by decide +kernel
theorem dX2_take_18 : decode cX2_take 18 = .ok (.if_icmp .ge 30, 3) := by decide +kernel
theorem dX2_take_21 : decode cX2_take 21 = .ok (.aload_n 0, 1) := by decide +kernel
theorem dX2_take_22 : decode cX2_take 22 = .ok (.aload_n 1, 1) := by decide +kernel
theorem dX2_take_23 : decode cX2_take 23 = .ok (.iload 4, 2) := by decide +kernel
theorem dX2_take_25 : decode cX2_take 25 = .ok (.iaload, 1) := by decide +kernel
theorem dX2_take_26 : decode cX2_take 26 = .ok (.iload 4, 2) := by decide +kernel
theorem dX2_take_28 : decode cX2_take 28 = .ok (.invokevirtual 29, 3) := by decide +kernel
theorem dX2_take_31 : decode cX2_take 31 = .ok (.ifCond .ne 11, 3) := by decide +kernel
theorem dX2_take_34 : decode cX2_take 34 = .ok (.aload_n 0, 1) := by decide +kernel
theorem dX2_take_35 : decode cX2_take 35 = .ok (.iload 4, 2) := by decide +kernel
theorem dX2_take_37 : decode cX2_take 37 = .ok (.putfield 33, 3) := by decide +kernel
theorem dX2_take_40 : decode cX2_take 40 = .ok (.iconst 1, 1) := by decide +kernel
theorem dX2_take_41 : decode cX2_take 41 = .ok (.ireturn, 1) := by decide +kernel
theorem dX2_take_42 : decode cX2_take 42 = .ok (.iinc 4 1, 3) := by decide +kernel
theorem dX2_take_45 : decode cX2_take 45 = .ok (.goto (-37), 3) := by decide +kernel
theorem dX2_take_48 : decode cX2_take 48 = .ok (.aload_n 0, 1) := by decide +kernel
theorem dX2_take_49 : decode cX2_take 49 = .ok (.invokevirtual 37, 3) := by decide +kernel
theorem dX2_take_52 : decode cX2_take 52 = .ok (.ifCond .ne 10, 3) := by decide +kernel
theorem dX2_take_55 : decode cX2_take 55 = .ok (.aload_n 0, 1) := by decide +kernel
theorem dX2_take_56 : decode cX2_take 56 = .ok (.iload_n 2, 1) := by decide +kernel
theorem dX2_take_57 : decode cX2_take 57 = .ok (.putfield 33, 3) := by decide +kernel
theorem dX2_take_60 : decode cX2_take 60 = .ok (.iconst 1, 1) := by decide +kernel
theorem dX2_take_61 : decode cX2_take 61 = .ok (.ireturn, 1) := by decide +kernel
theorem dX2_take_62 : decode cX2_take 62 = .ok (.aload_n 0, 1) := by decide +kernel
theorem dX2_take_63 : decode cX2_take 63 = .ok (.getfield 41, 3) := by decide +kernel
theorem dX2_take_66 : decode cX2_take 66 = .ok (.iconst 4, 1) := by decide +kernel
theorem dX2_take_67 : decode cX2_take 67 = .ok (.if_icmp .ne 7, 3) := by decide +kernel
theorem dX2_take_70 : decode cX2_take 70 = .ok (.aload_n 0, 1) := by decide +kernel
theorem dX2_take_71 : decode cX2_take 71 = .ok (.invokevirtual 44, 3) := by decide +kernel
theorem dX2_take_74 : decode cX2_take 74 = .ok (.aload_n 0, 1) := by decide +kernel
theorem dX2_take_75 : decode cX2_take 75 = .ok (.aload_n 0, 1) := by decide +kernel
theorem dX2_take_76 : decode cX2_take 76 = .ok (.getfield 47, 3) := by decide +kernel
theorem dX2_take_79 : decode cX2_take 79 = .ok (.putfield 33, 3) := by decide +kernel
theorem dX2_take_82 : decode cX2_take 82 = .ok (.aload_n 0, 1) := by decide +kernel
theorem dX2_take_83 : decode cX2_take 83 = .ok (.getfield 47, 3) := by decide +kernel
theorem dX2_take_86 : decode cX2_take 86 = .ok (.ifCond .lt 7, 3) := by decide +kernel
theorem dX2_take_89 : decode cX2_take 89 = .ok (.iconst 2, 1) := by decide +kernel
theorem dX2_take_90 : decode cX2_take 90 = .ok (.goto 4, 3) := by decide +kernel
theorem dX2_take_93 : decode cX2_take 93 = .ok (.iconst 0, 1) := by decide +kernel
theorem dX2_take_94 : decode cX2_take 94 = .ok (.ireturn, 1) := by decide +kernel
theorem dX2_start_0 : decode cX2_start 0 = .ok (.aload_n 0, 1) := by decide +kernel
theorem dX2_start_1 : decode cX2_start 1 = .ok (.iconst 0, 1) := by decide +kernel
theorem dX2_start_2 : decode cX2_start 2 = .ok (.putfield 50, 3) := by decide +kernel
theorem dX2_start_5 : decode cX2_start 5 = .ok (.aload_n 0, 1) := by decide +kernel
theorem dX2_start_6 : decode cX2_start 6 = .ok (.iconst 0, 1) := by decide +kernel
theorem dX2_start_7 : decode cX2_start 7 = .ok (.putfield 53, 3) := by decide +kernel
theorem dX2_start_10 : decode cX2_start 10 = .ok (.aload_n 0, 1) := by decide +kernel
theorem dX2_start_11 : decode cX2_start 11 = .ok (.iconst 0, 1) := by decide +kernel
theorem dX2_start_12 : decode cX2_start 12 = .ok (.putfield 56, 3) := by decide +kernel
theorem dX2_start_15 : decode cX2_start 15 = .ok (.aload_n 0, 1) := by decide +kernel
theorem dX2_start_16 : decode cX2_start 16 = .ok (.iconst 0, 1) := by decide +kernel
theorem dX2_start_17 : decode cX2_start 17 = .ok (.putfield 41, 3) := by decide +kernel
theorem dX2_start_20 : decode cX2_start 20 = .ok (.aload_n 0, 1) := by decide +kernel
theorem dX2_start_21 : decode cX2_start 21 = .ok (.iload_n 1, 1) := by decide +kernel
theorem dX2_start_22 : decode cX2_start 22 = .ok (.putfield 59, 3) := by decide +kernel
theorem dX2_start_25 : decode cX2_start 25 = .ok (.aload_n 0, 1) := by decide +kernel
theorem dX2_start_26 : decode cX2_start 26 = .ok (.iconst (-1), 1) := by decide +kernel
theorem dX2_start_27 : decode cX2_start 27 = .ok (.putfield 47, 3) := by decide +kernel
theorem dX2_start_30 : decode cX2_start 30 = .ok (.return_, 1) := by decide +kernel
theorem dX2_isWhole_0 : decode cX2_isWhole 0 = .ok (.aload_n 0, 1) := by decide +kernel
theorem dX2_isWhole_1 : decode cX2_isWhole 1 = .ok (.getfield 56, 3) := by decide +kernel
theorem dX2_isWhole_4 : decode cX2_isWhole 4 = .ok (.ifCond .ne 29, 3) := by decide +kernel
theorem dX2_isWhole_7 : decode cX2_isWhole 7 = .ok (.aload_n 0, 1) := by decide +kernel
theorem dX2_isWhole_8 : decode cX2_isWhole 8 = .ok (.getfield 41, 3) := by decide +kernel
theorem dX2_isWhole_11 : decode cX2_isWhole 11 = .ok (.ifCond .eq 18, 3) := by decide +kernel
theorem dX2_isWhole_14 : decode cX2_isWhole 14 = .ok (.aload_n 0, 1) := by decide +kernel
theorem dX2_isWhole_15 : decode cX2_isWhole 15 = .ok (.getfield 41, 3) := by decide +kernel
theorem dX2_isWhole_18 : decode cX2_isWhole 18 = .ok (.iconst 4, 1) := by decide +kernel
theorem dX2_isWhole_19 : decode cX2_isWhole 19 = .ok (.if_icmp .ne 14, 3) := by decide +kernel
theorem dX2_isWhole_22 : decode cX2_isWhole 22 = .ok (.aload_n 0, 1) := by decide +kernel
theorem dX2_isWhole_23 : decode cX2_isWhole 23 = .ok (.getfield 62, 3) := by decide +kernel
theorem dX2_isWhole_26 : decode cX2_isWhole 26 = .ok (.ifCond .le 7, 3) := by decide +kernel
theorem dX2_isWhole_29 : decode cX2_isWhole 29 = .ok (.iconst 1, 1) := by decide +kernel
theorem dX2_isWhole_30 : decode cX2_isWhole 30 = .ok (.goto 4, 3) := by decide +kernel
theorem dX2_isWhole_33 : decode cX2_isWhole 33 = .ok (.iconst 0, 1) := by decide +kernel
theorem dX2_isWhole_34 : decode cX2_isWhole 34 = .ok (.ireturn, 1) := by decide +kernel
theorem dX2_takeByte_0 : decode cX2_takeByte 0 = .ok (.aload_n 0, 1) := by decide +kernel
theorem dX2_takeByte_1 : decode cX2_takeByte 1 = .ok (.getfield 41, 3) := by decide +kernel
theorem dX2_takeByte_4 : decode cX2_takeByte 4 = .ok (.tableswitch 57 1 4 #[32, 38, 44, 50], 32) := by decide +kernel
theorem dX2_takeByte_36 : decode cX2_takeByte 36 = .ok (.aload_n 0, 1) := by decide +kernel
theorem dX2_takeByte_37 : decode cX2_takeByte 37 = .ok (.iload_n 1, 1) := by decide +kernel
theorem dX2_takeByte_38 : decode cX2_takeByte 38 = .ok (.invokevirtual 65, 3) := by decide +kernel
theorem dX2_takeByte_41 : decode cX2_takeByte 41 = .ok (.ireturn, 1) := by decide +kernel
theorem dX2_takeByte_42 : decode cX2_takeByte 42 = .ok (.aload_n 0, 1) := by decide +kernel
theorem dX2_takeByte_43 : decode cX2_takeByte 43 = .ok (.iload_n 1, 1) := by decide +kernel
theorem dX2_takeByte_44 : decode cX2_takeByte 44 = .ok (.invokevirtual 69, 3) := by decide +kernel
theorem dX2_takeByte_47 : decode cX2_takeByte 47 = .ok (.ireturn, 1) := by decide +kernel
theorem dX2_takeByte_48 : decode cX2_takeByte 48 = .ok (.aload_n 0, 1) := by decide +kernel
theorem dX2_takeByte_49 : decode cX2_takeByte 49 = .ok (.iload_n 1, 1) := by decide +kernel
theorem dX2_takeByte_50 : decode cX2_takeByte 50 = .ok (.invokevirtual 72, 3) := by decide +kernel
theorem dX2_takeByte_53 : decode cX2_takeByte 53 = .ok (.ireturn, 1) := by decide +kernel
theorem dX2_takeByte_54 : decode cX2_takeByte 54 = .ok (.aload_n 0, 1) := by decide +kernel
theorem dX2_takeByte_55 : decode cX2_takeByte 55 = .ok (.iload_n 1, 1) := by decide +kernel
theorem dX2_takeByte_56 : decode cX2_takeByte 56 = .ok (.iload_n 2, 1) := by decide +kernel
theorem dX2_takeByte_57 : decode cX2_takeByte 57 = .ok (.invokevirtual 75, 3) := by decide +kernel
theorem dX2_takeByte_60 : decode cX2_takeByte 60 = .ok (.ireturn, 1) := by decide +kernel
theorem dX2_takeByte_61 : decode cX2_takeByte 61 = .ok (.aload_n 0, 1) := by decide +kernel
theorem dX2_takeByte_62 : decode cX2_takeByte 62 = .ok (.iload_n 1, 1) := by decide +kernel
theorem dX2_takeByte_63 : decode cX2_takeByte 63 = .ok (.iload_n 2, 1) := by decide +kernel
theorem dX2_takeByte_64 : decode cX2_takeByte 64 = .ok (.invokevirtual 78, 3) := by decide +kernel
theorem dX2_takeByte_67 : decode cX2_takeByte 67 = .ok (.ireturn, 1) := by decide +kernel
theorem dX2_takeBodyByte_0 : decode cX2_takeBodyByte 0 = .ok (.iload_n 1, 1) := by decide +kernel
theorem dX2_takeBodyByte_1 : decode cX2_takeBodyByte 1 = .ok (.lookupswitch 129 #[(64, 107), (91, 51), (93, 70), (123, 93), (125, 105)], 51) := by decide +kernel
theorem dX2_takeBodyByte_52 : decode cX2_takeBodyByte 52 = .ok (.aload_n 0, 1) := by decide +kernel
theorem dX2_takeBodyByte_53 : decode cX2_takeBodyByte 53 = .ok (.iconst 1, 1) := by decide +kernel
theorem dX2_takeBodyByte_54 : decode cX2_takeBodyByte 54 = .ok (.putfield 41, 3) := by decide +kernel
theorem dX2_takeBodyByte_57 : decode cX2_takeBodyByte 57 = .ok (.aload_n 0, 1) := by decide +kernel
theorem dX2_takeBodyByte_58 : decode cX2_takeBodyByte 58 = .ok (.getfield 56, 3) := by decide +kernel
theorem dX2_takeBodyByte_61 : decode cX2_takeBodyByte 61 = .ok (.iconst 5, 1) := by decide +kernel
theorem dX2_takeBodyByte_62 : decode cX2_takeBodyByte 62 = .ok (.if_icmp .ge 7, 3) := by decide +kernel
theorem dX2_takeBodyByte_65 : decode cX2_takeBodyByte 65 = .ok (.iconst 1, 1) := by decide +kernel
theorem dX2_takeBodyByte_66 : decode cX2_takeBodyByte 66 = .ok (.goto 4, 3) := by decide +kernel
theorem dX2_takeBodyByte_69 : decode cX2_takeBodyByte 69 = .ok (.iconst 0, 1) := by decide +kernel
theorem dX2_takeBodyByte_70 : decode cX2_takeBodyByte 70 = .ok (.ireturn, 1) := by decide +kernel
theorem dX2_takeBodyByte_71 : decode cX2_takeBodyByte 71 = .ok (.aload_n 0, 1) := by decide +kernel
theorem dX2_takeBodyByte_72 : decode cX2_takeBodyByte 72 = .ok (.dup, 1) := by decide +kernel
theorem dX2_takeBodyByte_73 : decode cX2_takeBodyByte 73 = .ok (.getfield 56, 3) := by decide +kernel
theorem dX2_takeBodyByte_76 : decode cX2_takeBodyByte 76 = .ok (.iconst 1, 1) := by decide +kernel
theorem dX2_takeBodyByte_77 : decode cX2_takeBodyByte 77 = .ok (.isub, 1) := by decide +kernel
theorem dX2_takeBodyByte_78 : decode cX2_takeBodyByte 78 = .ok (.putfield 56, 3) := by decide +kernel
theorem dX2_takeBodyByte_81 : decode cX2_takeBodyByte 81 = .ok (.aload_n 0, 1) := by decide +kernel
theorem dX2_takeBodyByte_82 : decode cX2_takeBodyByte 82 = .ok (.getfield 56, 3) := by decide +kernel
theorem dX2_takeBodyByte_85 : decode cX2_takeBodyByte 85 = .ok (.ifCond .lt 7, 3) := by decide +kernel
theorem dX2_takeBodyByte_88 : decode cX2_takeBodyByte 88 = .ok (.iconst 1, 1) := by decide +kernel
theorem dX2_takeBodyByte_89 : decode cX2_takeBodyByte 89 = .ok (.goto 4, 3) := by decide +kernel
theorem dX2_takeBodyByte_92 : decode cX2_takeBodyByte 92 = .ok (.iconst 0, 1) := by decide +kernel
theorem dX2_takeBodyByte_93 : decode cX2_takeBodyByte 93 = .ok (.ireturn, 1) := by decide +kernel
theorem dX2_takeBodyByte_94 : decode cX2_takeBodyByte 94 = .ok (.aload_n 0, 1) := by decide +kernel
theorem dX2_takeBodyByte_95 : decode cX2_takeBodyByte 95 = .ok (.iconst 3, 1) := by decide +kernel
theorem dX2_takeBodyByte_96 : decode cX2_takeBodyByte 96 = .ok (.putfield 41, 3) := by decide +kernel
theorem dX2_takeBodyByte_99 : decode cX2_takeBodyByte 99 = .ok (.aload_n 0, 1) := by decide +kernel
theorem dX2_takeBodyByte_100 : decode cX2_takeBodyByte 100 = .ok (.iconst 0, 1) := by decide +kernel
theorem dX2_takeBodyByte_101 : decode cX2_takeBodyByte 101 = .ok (.putfield 62, 3) := by decide +kernel
theorem dX2_takeBodyByte_104 : decode cX2_takeBodyByte 104 = .ok (.iconst 1, 1) := by decide +kernel
theorem dX2_takeBodyByte_105 : decode cX2_takeBodyByte 105 = .ok (.ireturn, 1) := by decide +kernel
theorem dX2_takeBodyByte_106 : decode cX2_takeBodyByte 106 = .ok (.iconst 0, 1) := by decide +kernel
theorem dX2_takeBodyByte_107 : decode cX2_takeBodyByte 107 = .ok (.ireturn, 1) := by decide +kernel
theorem dX2_takeBodyByte_108 : decode cX2_takeBodyByte 108 = .ok (.aload_n 0, 1) := by decide +kernel
theorem dX2_takeBodyByte_109 : decode cX2_takeBodyByte 109 = .ok (.iconst 4, 1) := by decide +kernel
theorem dX2_takeBodyByte_110 : decode cX2_takeBodyByte 110 = .ok (.putfield 41, 3) := by decide +kernel
theorem dX2_takeBodyByte_113 : decode cX2_takeBodyByte 113 = .ok (.aload_n 0, 1) := by decide +kernel
theorem dX2_takeBodyByte_114 : decode cX2_takeBodyByte 114 = .ok (.iconst 0, 1) := by decide +kernel
theorem dX2_takeBodyByte_115 : decode cX2_takeBodyByte 115 = .ok (.putfield 62, 3) := by decide +kernel
theorem dX2_takeBodyByte_118 : decode cX2_takeBodyByte 118 = .ok (.aload_n 0, 1) := by decide +kernel
theorem dX2_takeBodyByte_119 : decode cX2_takeBodyByte 119 = .ok (.iconst 0, 1) := by decide +kernel
theorem dX2_takeBodyByte_120 : decode cX2_takeBodyByte 120 = .ok (.putfield 81, 3) := by decide +kernel
theorem dX2_takeBodyByte_123 : decode cX2_takeBodyByte 123 = .ok (.aload_n 0, 1) := by decide +kernel
theorem dX2_takeBodyByte_124 : decode cX2_takeBodyByte 124 = .ok (.iload_n 2, 1) := by decide +kernel
theorem dX2_takeBodyByte_125 : decode cX2_takeBodyByte 125 = .ok (.putfield 84, 3) := by decide +kernel
theorem dX2_takeBodyByte_128 : decode cX2_takeBodyByte 128 = .ok (.iconst 1, 1) := by decide +kernel
theorem dX2_takeBodyByte_129 : decode cX2_takeBodyByte 129 = .ok (.ireturn, 1) := by decide +kernel
theorem dX2_takeBodyByte_130 : decode cX2_takeBodyByte 130 = .ok (.aload_n 0, 1) := by decide +kernel
theorem dX2_takeBodyByte_131 : decode cX2_takeBodyByte 131 = .ok (.iload_n 1, 1) := by decide +kernel
theorem dX2_takeBodyByte_132 : decode cX2_takeBodyByte 132 = .ok (.invokevirtual 87, 3) := by decide +kernel
theorem dX2_takeBodyByte_135 : decode cX2_takeBodyByte 135 = .ok (.ireturn, 1) := by decide +kernel
theorem dX2_takePlain_0 : decode cX2_takePlain 0 = .ok (.iload_n 1, 1) := by decide +kernel
theorem dX2_takePlain_1 : decode cX2_takePlain 1 = .ok (.bipush 10, 2) := by decide +kernel
theorem dX2_takePlain_3 : decode cX2_takePlain 3 = .ok (.if_icmp .eq 17, 3) := by decide +kernel
theorem dX2_takePlain_6 : decode cX2_takePlain 6 = .ok (.iload_n 1, 1) := by decide +kernel
theorem dX2_takePlain_7 : decode cX2_takePlain 7 = .ok (.bipush 32, 2) := by decide +kernel
theorem dX2_takePlain_9 : decode cX2_takePlain 9 = .ok (.if_icmp .lt 9, 3) := by decide +kernel
theorem dX2_takePlain_12 : decode cX2_takePlain 12 = .ok (.iload_n 1, 1) := by decide +kernel
theorem dX2_takePlain_13 : decode cX2_takePlain 13 = .ok (.bipush 126, 2) := by decide +kernel
theorem dX2_takePlain_15 : decode cX2_takePlain 15 = .ok (.if_icmp .le 5, 3) := by decide +kernel
theorem dX2_takePlain_18 : decode cX2_takePlain 18 = .ok (.iconst 0, 1) := by decide +kernel
theorem dX2_takePlain_19 : decode cX2_takePlain 19 = .ok (.ireturn, 1) := by decide +kernel
theorem dX2_takePlain_20 : decode cX2_takePlain 20 = .ok (.aload_n 0, 1) := by decide +kernel
theorem dX2_takePlain_21 : decode cX2_takePlain 21 = .ok (.iload_n 1, 1) := by decide +kernel
theorem dX2_takePlain_22 : decode cX2_takePlain 22 = .ok (.iconst 0, 1) := by decide +kernel
theorem dX2_takePlain_23 : decode cX2_takePlain 23 = .ok (.invokevirtual 90, 3) := by decide +kernel
theorem dX2_takePlain_26 : decode cX2_takePlain 26 = .ok (.iconst 1, 1) := by decide +kernel
theorem dX2_takePlain_27 : decode cX2_takePlain 27 = .ok (.ireturn, 1) := by decide +kernel
theorem dX2_takeLevel_0 : decode cX2_takeLevel 0 = .ok (.iload_n 1, 1) := by decide +kernel
theorem dX2_takeLevel_1 : decode cX2_takeLevel 1 = .ok (.bipush 49, 2) := by decide +kernel
theorem dX2_takeLevel_3 : decode cX2_takeLevel 3 = .ok (.if_icmp .lt 30, 3) := by decide +kernel
theorem dX2_takeLevel_6 : decode cX2_takeLevel 6 = .ok (.iload_n 1, 1) := by decide +kernel
theorem dX2_takeLevel_7 : decode cX2_takeLevel 7 = .ok (.bipush 57, 2) := by decide +kernel
theorem dX2_takeLevel_9 : decode cX2_takeLevel 9 = .ok (.if_icmp .gt 24, 3) := by decide +kernel
theorem dX2_takeLevel_12 : decode cX2_takeLevel 12 = .ok (.aload_n 0, 1) := by decide +kernel
theorem dX2_takeLevel_13 : decode cX2_takeLevel 13 = .ok (.getfield 56, 3) := by decide +kernel
theorem dX2_takeLevel_16 : decode cX2_takeLevel 16 = .ok (.ifCond .lt 17, 3) := by decide +kernel
theorem dX2_takeLevel_19 : decode cX2_takeLevel 19 = .ok (.aload_n 0, 1) := by decide +kernel
theorem dX2_takeLevel_20 : decode cX2_takeLevel 20 = .ok (.getfield 56, 3) := by decide +kernel
theorem dX2_takeLevel_23 : decode cX2_takeLevel 23 = .ok (.iconst 1, 1) := by decide +kernel
theorem dX2_takeLevel_24 : decode cX2_takeLevel 24 = .ok (.iadd, 1) := by decide +kernel
theorem dX2_takeLevel_25 : decode cX2_takeLevel 25 = .ok (.aload_n 0, 1) := by decide +kernel
theorem dX2_takeLevel_26 : decode cX2_takeLevel 26 = .ok (.getfield 21, 3) := by decide +kernel
theorem dX2_takeLevel_29 : decode cX2_takeLevel 29 = .ok (.arraylength, 1) := by decide +kernel
theorem dX2_takeLevel_30 : decode cX2_takeLevel 30 = .ok (.if_icmp .lt 5, 3) := by decide +kernel
theorem dX2_takeLevel_33 : decode cX2_takeLevel 33 = .ok (.iconst 0, 1) := by decide +kernel
theorem dX2_takeLevel_34 : decode cX2_takeLevel 34 = .ok (.ireturn, 1) := by decide +kernel
theorem dX2_takeLevel_35 : decode cX2_takeLevel 35 = .ok (.aload_n 0, 1) := by decide +kernel
theorem dX2_takeLevel_36 : decode cX2_takeLevel 36 = .ok (.getfield 21, 3) := by decide +kernel
theorem dX2_takeLevel_39 : decode cX2_takeLevel 39 = .ok (.aload_n 0, 1) := by decide +kernel
theorem dX2_takeLevel_40 : decode cX2_takeLevel 40 = .ok (.getfield 56, 3) := by decide +kernel
theorem dX2_takeLevel_43 : decode cX2_takeLevel 43 = .ok (.iconst 1, 1) := by decide +kernel
theorem dX2_takeLevel_44 : decode cX2_takeLevel 44 = .ok (.iadd, 1) := by decide +kernel
theorem dX2_takeLevel_45 : decode cX2_takeLevel 45 = .ok (.aload_n 0, 1) := by decide +kernel
theorem dX2_takeLevel_46 : decode cX2_takeLevel 46 = .ok (.getfield 21, 3) := by decide +kernel
theorem dX2_takeLevel_49 : decode cX2_takeLevel 49 = .ok (.aload_n 0, 1) := by decide +kernel
theorem dX2_takeLevel_50 : decode cX2_takeLevel 50 = .ok (.getfield 56, 3) := by decide +kernel
theorem dX2_takeLevel_53 : decode cX2_takeLevel 53 = .ok (.iaload, 1) := by decide +kernel
theorem dX2_takeLevel_54 : decode cX2_takeLevel 54 = .ok (.iload_n 1, 1) := by decide +kernel
theorem dX2_takeLevel_55 : decode cX2_takeLevel 55 = .ok (.bipush 48, 2) := by decide +kernel
theorem dX2_takeLevel_57 : decode cX2_takeLevel 57 = .ok (.isub, 1) := by decide +kernel
theorem dX2_takeLevel_58 : decode cX2_takeLevel 58 = .ok (.invokestatic 94, 3) := by decide +kernel
theorem dX2_takeLevel_61 : decode cX2_takeLevel 61 = .ok (.iastore, 1) := by decide +kernel
theorem dX2_takeLevel_62 : decode cX2_takeLevel 62 = .ok (.aload_n 0, 1) := by decide +kernel
theorem dX2_takeLevel_63 : decode cX2_takeLevel 63 = .ok (.dup, 1) := by decide +kernel
theorem dX2_takeLevel_64 : decode cX2_takeLevel 64 = .ok (.getfield 56, 3) := by decide +kernel
theorem dX2_takeLevel_67 : decode cX2_takeLevel 67 = .ok (.iconst 1, 1) := by decide +kernel
theorem dX2_takeLevel_68 : decode cX2_takeLevel 68 = .ok (.iadd, 1) := by decide +kernel
theorem dX2_takeLevel_69 : decode cX2_takeLevel 69 = .ok (.putfield 56, 3) := by decide +kernel
theorem dX2_takeLevel_72 : decode cX2_takeLevel 72 = .ok (.aload_n 0, 1) := by decide +kernel
theorem dX2_takeLevel_73 : decode cX2_takeLevel 73 = .ok (.iconst 2, 1) := by decide +kernel
theorem dX2_takeLevel_74 : decode cX2_takeLevel 74 = .ok (.putfield 41, 3) := by decide +kernel
theorem dX2_takeLevel_77 : decode cX2_takeLevel 77 = .ok (.iconst 1, 1) := by decide +kernel
theorem dX2_takeLevel_78 : decode cX2_takeLevel 78 = .ok (.ireturn, 1) := by decide +kernel
theorem dX2_takeColon_0 : decode cX2_takeColon 0 = .ok (.aload_n 0, 1) := by decide +kernel
theorem dX2_takeColon_1 : decode cX2_takeColon 1 = .ok (.iconst 0, 1) := by decide +kernel
theorem dX2_takeColon_2 : decode cX2_takeColon 2 = .ok (.putfield 41, 3) := by decide +kernel
theorem dX2_takeColon_5 : decode cX2_takeColon 5 = .ok (.iload_n 1, 1) := by decide +kernel
theorem dX2_takeColon_6 : decode cX2_takeColon 6 = .ok (.bipush 58, 2) := by decide +kernel
theorem dX2_takeColon_8 : decode cX2_takeColon 8 = .ok (.if_icmp .ne 7, 3) := by decide +kernel
theorem dX2_takeColon_11 : decode cX2_takeColon 11 = .ok (.iconst 1, 1) := by decide +kernel
theorem dX2_takeColon_12 : decode cX2_takeColon 12 = .ok (.goto 4, 3) := by decide +kernel
theorem dX2_takeColon_15 : decode cX2_takeColon 15 = .ok (.iconst 0, 1) := by decide +kernel
theorem dX2_takeColon_16 : decode cX2_takeColon 16 = .ok (.ireturn, 1) := by decide +kernel
theorem dX2_takeNameByte_0 : decode cX2_takeNameByte 0 = .ok (.iload_n 1, 1) := by decide +kernel
theorem dX2_takeNameByte_1 : decode cX2_takeNameByte 1 = .ok (.bipush 125, 2) := by decide +kernel
theorem dX2_takeNameByte_3 : decode cX2_takeNameByte 3 = .ok (.if_icmp .ne 21, 3) := by decide +kernel
theorem dX2_takeNameByte_6 : decode cX2_takeNameByte 6 = .ok (.aload_n 0, 1) := by decide +kernel
theorem dX2_takeNameByte_7 : decode cX2_takeNameByte 7 = .ok (.iconst 0, 1) := by decide +kernel
theorem dX2_takeNameByte_8 : decode cX2_takeNameByte 8 = .ok (.putfield 41, 3) := by decide +kernel
theorem dX2_takeNameByte_11 : decode cX2_takeNameByte 11 = .ok (.aload_n 0, 1) := by decide +kernel
theorem dX2_takeNameByte_12 : decode cX2_takeNameByte 12 = .ok (.getfield 62, 3) := by decide +kernel
theorem dX2_takeNameByte_15 : decode cX2_takeNameByte 15 = .ok (.ifCond .le 7, 3) := by decide +kernel
theorem dX2_takeNameByte_18 : decode cX2_takeNameByte 18 = .ok (.iconst 1, 1) := by decide +kernel
theorem dX2_takeNameByte_19 : decode cX2_takeNameByte 19 = .ok (.goto 4, 3) := by decide +kernel
theorem dX2_takeNameByte_22 : decode cX2_takeNameByte 22 = .ok (.iconst 0, 1) := by decide +kernel
theorem dX2_takeNameByte_23 : decode cX2_takeNameByte 23 = .ok (.ireturn, 1) := by decide +kernel
theorem dX2_takeNameByte_24 : decode cX2_takeNameByte 24 = .ok (.aload_n 0, 1) := by decide +kernel
theorem dX2_takeNameByte_25 : decode cX2_takeNameByte 25 = .ok (.getfield 62, 3) := by decide +kernel
theorem dX2_takeNameByte_28 : decode cX2_takeNameByte 28 = .ok (.bipush 12, 2) := by decide +kernel
theorem dX2_takeNameByte_30 : decode cX2_takeNameByte 30 = .ok (.if_icmp .ge 10, 3) := by decide +kernel
theorem dX2_takeNameByte_33 : decode cX2_takeNameByte 33 = .ok (.iload_n 1, 1) := by decide +kernel
theorem dX2_takeNameByte_34 : decode cX2_takeNameByte 34 = .ok (.invokestatic 100, 3) := by decide +kernel
theorem dX2_takeNameByte_37 : decode cX2_takeNameByte 37 = .ok (.ifCond .ne 5, 3) := by decide +kernel
theorem dX2_takeNameByte_40 : decode cX2_takeNameByte 40 = .ok (.iconst 0, 1) := by decide +kernel
theorem dX2_takeNameByte_41 : decode cX2_takeNameByte 41 = .ok (.ireturn, 1) := by decide +kernel
theorem dX2_takeNameByte_42 : decode cX2_takeNameByte 42 = .ok (.aload_n 0, 1) := by decide +kernel
theorem dX2_takeNameByte_43 : decode cX2_takeNameByte 43 = .ok (.iload_n 1, 1) := by decide +kernel
theorem dX2_takeNameByte_44 : decode cX2_takeNameByte 44 = .ok (.aload_n 0, 1) := by decide +kernel
theorem dX2_takeNameByte_45 : decode cX2_takeNameByte 45 = .ok (.getfield 62, 3) := by decide +kernel
theorem dX2_takeNameByte_48 : decode cX2_takeNameByte 48 = .ok (.ifCond .le 7, 3) := by decide +kernel
theorem dX2_takeNameByte_51 : decode cX2_takeNameByte 51 = .ok (.iconst 1, 1) := by decide +kernel
theorem dX2_takeNameByte_52 : decode cX2_takeNameByte 52 = .ok (.goto 4, 3) := by decide +kernel
theorem dX2_takeNameByte_55 : decode cX2_takeNameByte 55 = .ok (.iconst 0, 1) := by decide +kernel
theorem dX2_takeNameByte_56 : decode cX2_takeNameByte 56 = .ok (.invokevirtual 90, 3) := by decide +kernel
theorem dX2_takeNameByte_59 : decode cX2_takeNameByte 59 = .ok (.aload_n 0, 1) := by decide +kernel
theorem dX2_takeNameByte_60 : decode cX2_takeNameByte 60 = .ok (.dup, 1) := by decide +kernel
theorem dX2_takeNameByte_61 : decode cX2_takeNameByte 61 = .ok (.getfield 62, 3) := by decide +kernel
theorem dX2_takeNameByte_64 : decode cX2_takeNameByte 64 = .ok (.iconst 1, 1) := by decide +kernel
theorem dX2_takeNameByte_65 : decode cX2_takeNameByte 65 = .ok (.iadd, 1) := by decide +kernel
theorem dX2_takeNameByte_66 : decode cX2_takeNameByte 66 = .ok (.putfield 62, 3) := by decide +kernel
theorem dX2_takeNameByte_69 : decode cX2_takeNameByte 69 = .ok (.iconst 1, 1) := by decide +kernel
theorem dX2_takeNameByte_70 : decode cX2_takeNameByte 70 = .ok (.ireturn, 1) := by decide +kernel
theorem dX2_takeNumberByte_0 : decode cX2_takeNumberByte 0 = .ok (.iload_n 1, 1) := by decide +kernel
theorem dX2_takeNumberByte_1 : decode cX2_takeNumberByte 1 = .ok (.bipush 48, 2) := by decide +kernel
theorem dX2_takeNumberByte_3 : decode cX2_takeNumberByte 3 = .ok (.if_icmp .lt 9, 3) := by decide +kernel
theorem dX2_takeNumberByte_6 : decode cX2_takeNumberByte 6 = .ok (.iload_n 1, 1) := by decide +kernel
theorem dX2_takeNumberByte_7 : decode cX2_takeNumberByte 7 = .ok (.bipush 57, 2) := by decide +kernel
theorem dX2_takeNumberByte_9 : decode cX2_takeNumberByte 9 = .ok (.if_icmp .le 23, 3) := by decide +kernel
theorem dX2_takeNumberByte_12 : decode cX2_takeNumberByte 12 = .ok (.aload_n 0, 1) := by decide +kernel
theorem dX2_takeNumberByte_13 : decode cX2_takeNumberByte 13 = .ok (.getfield 62, 3) := by decide +kernel
theorem dX2_takeNumberByte_16 : decode cX2_takeNumberByte 16 = .ok (.ifCond .ne 5, 3) := by decide +kernel
theorem dX2_takeNumberByte_19 : decode cX2_takeNumberByte 19 = .ok (.iconst 0, 1) := by decide +kernel
theorem dX2_takeNumberByte_20 : decode cX2_takeNumberByte 20 = .ok (.ireturn, 1) := by decide +kernel
theorem dX2_takeNumberByte_21 : decode cX2_takeNumberByte 21 = .ok (.aload_n 0, 1) := by decide +kernel
theorem dX2_takeNumberByte_22 : decode cX2_takeNumberByte 22 = .ok (.invokevirtual 44, 3) := by decide +kernel
theorem dX2_takeNumberByte_25 : decode cX2_takeNumberByte 25 = .ok (.aload_n 0, 1) := by decide +kernel
theorem dX2_takeNumberByte_26 : decode cX2_takeNumberByte 26 = .ok (.iload_n 1, 1) := by decide +kernel
theorem dX2_takeNumberByte_27 : decode cX2_takeNumberByte 27 = .ok (.iload_n 2, 1) := by decide +kernel
theorem dX2_takeNumberByte_28 : decode cX2_takeNumberByte 28 = .ok (.invokevirtual 78, 3) := by decide +kernel
theorem dX2_takeNumberByte_31 : decode cX2_takeNumberByte 31 = .ok (.ireturn, 1) := by decide +kernel
theorem dX2_takeNumberByte_32 : decode cX2_takeNumberByte 32 = .ok (.aload_n 0, 1) := by decide +kernel
theorem dX2_takeNumberByte_33 : decode cX2_takeNumberByte 33 = .ok (.aload_n 0, 1) := by decide +kernel
theorem dX2_takeNumberByte_34 : decode cX2_takeNumberByte 34 = .ok (.getfield 81, 3) := by decide +kernel
theorem dX2_takeNumberByte_37 : decode cX2_takeNumberByte 37 = .ok (.bipush 10, 2) := by decide +kernel
theorem dX2_takeNumberByte_39 : decode cX2_takeNumberByte 39 = .ok (.imul, 1) := by decide +kernel
theorem dX2_takeNumberByte_40 : decode cX2_takeNumberByte 40 = .ok (.iload_n 1, 1) := by decide +kernel
theorem dX2_takeNumberByte_41 : decode cX2_takeNumberByte 41 = .ok (.iadd, 1) := by decide +kernel
theorem dX2_takeNumberByte_42 : decode cX2_takeNumberByte 42 = .ok (.bipush 48, 2) := by decide +kernel
theorem dX2_takeNumberByte_44 : decode cX2_takeNumberByte 44 = .ok (.isub, 1) := by decide +kernel
theorem dX2_takeNumberByte_45 : decode cX2_takeNumberByte 45 = .ok (.putfield 81, 3) := by decide +kernel
theorem dX2_takeNumberByte_48 : decode cX2_takeNumberByte 48 = .ok (.aload_n 0, 1) := by decide +kernel
theorem dX2_takeNumberByte_49 : decode cX2_takeNumberByte 49 = .ok (.dup, 1) := by decide +kernel
theorem dX2_takeNumberByte_50 : decode cX2_takeNumberByte 50 = .ok (.getfield 62, 3) := by decide +kernel
theorem dX2_takeNumberByte_53 : decode cX2_takeNumberByte 53 = .ok (.iconst 1, 1) := by decide +kernel
theorem dX2_takeNumberByte_54 : decode cX2_takeNumberByte 54 = .ok (.iadd, 1) := by decide +kernel
theorem dX2_takeNumberByte_55 : decode cX2_takeNumberByte 55 = .ok (.putfield 62, 3) := by decide +kernel
theorem dX2_takeNumberByte_58 : decode cX2_takeNumberByte 58 = .ok (.aload_n 0, 1) := by decide +kernel
theorem dX2_takeNumberByte_59 : decode cX2_takeNumberByte 59 = .ok (.getfield 62, 3) := by decide +kernel
theorem dX2_takeNumberByte_62 : decode cX2_takeNumberByte 62 = .ok (.iconst 3, 1) := by decide +kernel
theorem dX2_takeNumberByte_63 : decode cX2_takeNumberByte 63 = .ok (.if_icmp .lt 7, 3) := by decide +kernel
theorem dX2_takeNumberByte_66 : decode cX2_takeNumberByte 66 = .ok (.aload_n 0, 1) := by decide +kernel
theorem dX2_takeNumberByte_67 : decode cX2_takeNumberByte 67 = .ok (.invokevirtual 44, 3) := by decide +kernel
theorem dX2_takeNumberByte_70 : decode cX2_takeNumberByte 70 = .ok (.iconst 1, 1) := by decide +kernel
theorem dX2_takeNumberByte_71 : decode cX2_takeNumberByte 71 = .ok (.ireturn, 1) := by decide +kernel
theorem dX2_endNumber_0 : decode cX2_endNumber 0 = .ok (.aload_n 0, 1) := by decide +kernel
theorem dX2_endNumber_1 : decode cX2_endNumber 1 = .ok (.iconst 0, 1) := by decide +kernel
theorem dX2_endNumber_2 : decode cX2_endNumber 2 = .ok (.putfield 41, 3) := by decide +kernel
theorem dX2_endNumber_5 : decode cX2_endNumber 5 = .ok (.aload_n 0, 1) := by decide +kernel
theorem dX2_endNumber_6 : decode cX2_endNumber 6 = .ok (.getfield 81, 3) := by decide +kernel
theorem dX2_endNumber_9 : decode cX2_endNumber 9 = .ok (.bipush 20, 2) := by decide +kernel
theorem dX2_endNumber_11 : decode cX2_endNumber 11 = .ok (.if_icmp .ge 17, 3) := by decide +kernel
theorem dX2_endNumber_14 : decode cX2_endNumber 14 = .ok (.aload_n 0, 1) := by decide +kernel
theorem dX2_endNumber_15 : decode cX2_endNumber 15 = .ok (.getfield 59, 3) := by decide +kernel
theorem dX2_endNumber_18 : decode cX2_endNumber 18 = .ok (.aload_n 0, 1) := by decide +kernel
theorem dX2_endNumber_19 : decode cX2_endNumber 19 = .ok (.getfield 81, 3) := by decide +kernel
theorem dX2_endNumber_22 : decode cX2_endNumber 22 = .ok (.ishr, 1) := by decide +kernel
theorem dX2_endNumber_23 : decode cX2_endNumber 23 = .ok (.iconst 1, 1) := by decide +kernel
theorem dX2_endNumber_24 : decode cX2_endNumber 24 = .ok (.iand, 1) := by decide +kernel
theorem dX2_endNumber_25 : decode cX2_endNumber 25 = .ok (.ifCond .ne 26, 3) := by decide +kernel
theorem dX2_endNumber_28 : decode cX2_endNumber 28 = .ok (.aload_n 0, 1) := by decide +kernel
theorem dX2_endNumber_29 : decode cX2_endNumber 29 = .ok (.aload_n 0, 1) := by decide +kernel
theorem dX2_endNumber_30 : decode cX2_endNumber 30 = .ok (.getfield 47, 3) := by decide +kernel
theorem dX2_endNumber_33 : decode cX2_endNumber 33 = .ok (.ifCond .ge 10, 3) := by decide +kernel
theorem dX2_endNumber_36 : decode cX2_endNumber 36 = .ok (.aload_n 0, 1) := by decide +kernel
theorem dX2_endNumber_37 : decode cX2_endNumber 37 = .ok (.getfield 84, 3) := by decide +kernel
theorem dX2_endNumber_40 : decode cX2_endNumber 40 = .ok (.goto 7, 3) := by decide +kernel
theorem dX2_endNumber_43 : decode cX2_endNumber 43 = .ok (.aload_n 0, 1) := by decide +kernel
theorem dX2_endNumber_44 : decode cX2_endNumber 44 = .ok (.getfield 47, 3) := by decide +kernel
theorem dX2_endNumber_47 : decode cX2_endNumber 47 = .ok (.putfield 47, 3) := by decide +kernel
theorem dX2_endNumber_50 : decode cX2_endNumber 50 = .ok (.return_, 1) := by decide +kernel
theorem dX2_endNumber_51 : decode cX2_endNumber 51 = .ok (.aload_n 0, 1) := by decide +kernel
theorem dX2_endNumber_52 : decode cX2_endNumber 52 = .ok (.dup, 1) := by decide +kernel
theorem dX2_endNumber_53 : decode cX2_endNumber 53 = .ok (.getfield 53, 3) := by decide +kernel
theorem dX2_endNumber_56 : decode cX2_endNumber 56 = .ok (.iconst 1, 1) := by decide +kernel
theorem dX2_endNumber_57 : decode cX2_endNumber 57 = .ok (.aload_n 0, 1) := by decide +kernel
theorem dX2_endNumber_58 : decode cX2_endNumber 58 = .ok (.getfield 81, 3) := by decide +kernel
theorem dX2_endNumber_61 : decode cX2_endNumber 61 = .ok (.ishl, 1) := by decide +kernel
theorem dX2_endNumber_62 : decode cX2_endNumber 62 = .ok (.ior, 1) := by decide +kernel
theorem dX2_endNumber_63 : decode cX2_endNumber 63 = .ok (.putfield 53, 3) := by decide +kernel
theorem dX2_endNumber_66 : decode cX2_endNumber 66 = .ok (.aload_n 0, 1) := by decide +kernel
theorem dX2_endNumber_67 : decode cX2_endNumber 67 = .ok (.bipush 69, 2) := by decide +kernel
theorem dX2_endNumber_69 : decode cX2_endNumber 69 = .ok (.iconst 0, 1) := by decide +kernel
theorem dX2_endNumber_70 : decode cX2_endNumber 70 = .ok (.invokevirtual 90, 3) := by decide +kernel
theorem dX2_endNumber_73 : decode cX2_endNumber 73 = .ok (.aload_n 0, 1) := by decide +kernel
theorem dX2_endNumber_74 : decode cX2_endNumber 74 = .ok (.bipush 120, 2) := by decide +kernel
theorem dX2_endNumber_76 : decode cX2_endNumber 76 = .ok (.iconst 0, 1) := by decide +kernel
theorem dX2_endNumber_77 : decode cX2_endNumber 77 = .ok (.invokevirtual 90, 3) := by decide +kernel
theorem dX2_endNumber_80 : decode cX2_endNumber 80 = .ok (.aload_n 0, 1) := by decide +kernel
theorem dX2_endNumber_81 : decode cX2_endNumber 81 = .ok (.bipush 46, 2) := by decide +kernel
theorem dX2_endNumber_83 : decode cX2_endNumber 83 = .ok (.iconst 0, 1) := by decide +kernel
theorem dX2_endNumber_84 : decode cX2_endNumber 84 = .ok (.invokevirtual 90, 3) := by decide +kernel
theorem dX2_endNumber_87 : decode cX2_endNumber 87 = .ok (.aload_n 0, 1) := by decide +kernel
theorem dX2_endNumber_88 : decode cX2_endNumber 88 = .ok (.bipush 32, 2) := by decide +kernel
theorem dX2_endNumber_90 : decode cX2_endNumber 90 = .ok (.iconst 0, 1) := by decide +kernel
theorem dX2_endNumber_91 : decode cX2_endNumber 91 = .ok (.invokevirtual 90, 3) := by decide +kernel
theorem dX2_endNumber_94 : decode cX2_endNumber 94 = .ok (.aload_n 0, 1) := by decide +kernel
theorem dX2_endNumber_95 : decode cX2_endNumber 95 = .ok (.getfield 81, 3) := by decide +kernel
theorem dX2_endNumber_98 : decode cX2_endNumber 98 = .ok (.bipush 10, 2) := by decide +kernel
theorem dX2_endNumber_100 : decode cX2_endNumber 100 = .ok (.if_icmp .lt 18, 3) := by decide +kernel
theorem dX2_endNumber_103 : decode cX2_endNumber 103 = .ok (.aload_n 0, 1) := by decide +kernel
theorem dX2_endNumber_104 : decode cX2_endNumber 104 = .ok (.bipush 48, 2) := by decide +kernel
theorem dX2_endNumber_106 : decode cX2_endNumber 106 = .ok (.aload_n 0, 1) := by decide +kernel
theorem dX2_endNumber_107 : decode cX2_endNumber 107 = .ok (.getfield 81, 3) := by decide +kernel
theorem dX2_endNumber_110 : decode cX2_endNumber 110 = .ok (.bipush 10, 2) := by decide +kernel
theorem dX2_endNumber_112 : decode cX2_endNumber 112 = .ok (.idiv, 1) := by decide +kernel
theorem dX2_endNumber_113 : decode cX2_endNumber 113 = .ok (.iadd, 1) := by decide +kernel
theorem dX2_endNumber_114 : decode cX2_endNumber 114 = .ok (.iconst 0, 1) := by decide +kernel
theorem dX2_endNumber_115 : decode cX2_endNumber 115 = .ok (.invokevirtual 90, 3) := by decide +kernel
theorem dX2_endNumber_118 : decode cX2_endNumber 118 = .ok (.aload_n 0, 1) := by decide +kernel
theorem dX2_endNumber_119 : decode cX2_endNumber 119 = .ok (.bipush 48, 2) := by decide +kernel
theorem dX2_endNumber_121 : decode cX2_endNumber 121 = .ok (.aload_n 0, 1) := by decide +kernel
theorem dX2_endNumber_122 : decode cX2_endNumber 122 = .ok (.getfield 81, 3) := by decide +kernel
theorem dX2_endNumber_125 : decode cX2_endNumber 125 = .ok (.bipush 10, 2) := by decide +kernel
theorem dX2_endNumber_127 : decode cX2_endNumber 127 = .ok (.irem, 1) := by decide +kernel
theorem dX2_endNumber_128 : decode cX2_endNumber 128 = .ok (.iadd, 1) := by decide +kernel
theorem dX2_endNumber_129 : decode cX2_endNumber 129 = .ok (.iconst 0, 1) := by decide +kernel
theorem dX2_endNumber_130 : decode cX2_endNumber 130 = .ok (.invokevirtual 90, 3) := by decide +kernel
theorem dX2_endNumber_133 : decode cX2_endNumber 133 = .ok (.return_, 1) := by decide +kernel
theorem dX2_isLetter_0 : decode cX2_isLetter 0 = .ok (.iload_n 0, 1) := by decide +kernel
theorem dX2_isLetter_1 : decode cX2_isLetter 1 = .ok (.bipush 65, 2) := by decide +kernel
theorem dX2_isLetter_3 : decode cX2_isLetter 3 = .ok (.if_icmp .lt 9, 3) := by decide +kernel
theorem dX2_isLetter_6 : decode cX2_isLetter 6 = .ok (.iload_n 0, 1) := by decide +kernel
theorem dX2_isLetter_7 : decode cX2_isLetter 7 = .ok (.bipush 90, 2) := by decide +kernel
theorem dX2_isLetter_9 : decode cX2_isLetter 9 = .ok (.if_icmp .le 15, 3) := by decide +kernel
theorem dX2_isLetter_12 : decode cX2_isLetter 12 = .ok (.iload_n 0, 1) := by decide +kernel
theorem dX2_isLetter_13 : decode cX2_isLetter 13 = .ok (.bipush 97, 2) := by decide +kernel
theorem dX2_isLetter_15 : decode cX2_isLetter 15 = .ok (.if_icmp .lt 13, 3) := by decide +kernel
theorem dX2_isLetter_18 : decode cX2_isLetter 18 = .ok (.iload_n 0, 1) := by decide +kernel
theorem dX2_isLetter_19 : decode cX2_isLetter 19 = .ok (.bipush 122, 2) := by decide +kernel
theorem dX2_isLetter_21 : decode cX2_isLetter 21 = .ok (.if_icmp .gt 7, 3) := by decide +kernel
theorem dX2_isLetter_24 : decode cX2_isLetter 24 = .ok (.iconst 1, 1) := by decide +kernel
theorem dX2_isLetter_25 : decode cX2_isLetter 25 = .ok (.goto 4, 3) := by decide +kernel
theorem dX2_isLetter_28 : decode cX2_isLetter 28 = .ok (.iconst 0, 1) := by decide +kernel
theorem dX2_isLetter_29 : decode cX2_isLetter 29 = .ok (.ireturn, 1) := by decide +kernel
theorem dX2_put_0 : decode cX2_put 0 = .ok (.aload_n 0, 1) := by decide +kernel
theorem dX2_put_1 : decode cX2_put 1 = .ok (.getfield 50, 3) := by decide +kernel
theorem dX2_put_4 : decode cX2_put 4 = .ok (.ifCond .lt 34, 3) := by decide +kernel
theorem dX2_put_7 : decode cX2_put 7 = .ok (.aload_n 0, 1) := by decide +kernel
theorem dX2_put_8 : decode cX2_put 8 = .ok (.getfield 50, 3) := by decide +kernel
theorem dX2_put_11 : decode cX2_put 11 = .ok (.aload_n 0, 1) := by decide +kernel
theorem dX2_put_12 : decode cX2_put 12 = .ok (.getfield 9, 3) := by decide +kernel
theorem dX2_put_15 : decode cX2_put 15 = .ok (.arraylength, 1) := by decide +kernel
theorem dX2_put_16 : decode cX2_put 16 = .ok (.if_icmp .ge 22, 3) := by decide +kernel
theorem dX2_put_19 : decode cX2_put 19 = .ok (.aload_n 0, 1) := by decide +kernel
theorem dX2_put_20 : decode cX2_put 20 = .ok (.getfield 56, 3) := by decide +kernel
theorem dX2_put_23 : decode cX2_put 23 = .ok (.ifCond .lt 15, 3) := by decide +kernel
theorem dX2_put_26 : decode cX2_put 26 = .ok (.aload_n 0, 1) := by decide +kernel
theorem dX2_put_27 : decode cX2_put 27 = .ok (.getfield 56, 3) := by decide +kernel
theorem dX2_put_30 : decode cX2_put 30 = .ok (.aload_n 0, 1) := by decide +kernel
theorem dX2_put_31 : decode cX2_put 31 = .ok (.getfield 21, 3) := by decide +kernel
theorem dX2_put_34 : decode cX2_put 34 = .ok (.arraylength, 1) := by decide +kernel
theorem dX2_put_35 : decode cX2_put 35 = .ok (.if_icmp .lt 4, 3) := by decide +kernel
theorem dX2_put_38 : decode cX2_put 38 = .ok (.return_, 1) := by decide +kernel
theorem dX2_put_39 : decode cX2_put 39 = .ok (.aload_n 0, 1) := by decide +kernel
theorem dX2_put_40 : decode cX2_put 40 = .ok (.getfield 9, 3) := by decide +kernel
theorem dX2_put_43 : decode cX2_put 43 = .ok (.aload_n 0, 1) := by decide +kernel
theorem dX2_put_44 : decode cX2_put 44 = .ok (.getfield 50, 3) := by decide +kernel
theorem dX2_put_47 : decode cX2_put 47 = .ok (.iload_n 1, 1) := by decide +kernel
theorem dX2_put_48 : decode cX2_put 48 = .ok (.i2b, 1) := by decide +kernel
theorem dX2_put_49 : decode cX2_put 49 = .ok (.bastore, 1) := by decide +kernel
theorem dX2_put_50 : decode cX2_put 50 = .ok (.aload_n 0, 1) := by decide +kernel
theorem dX2_put_51 : decode cX2_put 51 = .ok (.getfield 15, 3) := by decide +kernel
theorem dX2_put_54 : decode cX2_put 54 = .ok (.aload_n 0, 1) := by decide +kernel
theorem dX2_put_55 : decode cX2_put 55 = .ok (.getfield 50, 3) := by decide +kernel
theorem dX2_put_58 : decode cX2_put 58 = .ok (.aload_n 0, 1) := by decide +kernel
theorem dX2_put_59 : decode cX2_put 59 = .ok (.getfield 21, 3) := by decide +kernel
theorem dX2_put_62 : decode cX2_put 62 = .ok (.aload_n 0, 1) := by decide +kernel
theorem dX2_put_63 : decode cX2_put 63 = .ok (.getfield 56, 3) := by decide +kernel
theorem dX2_put_66 : decode cX2_put 66 = .ok (.iaload, 1) := by decide +kernel
theorem dX2_put_67 : decode cX2_put 67 = .ok (.i2b, 1) := by decide +kernel
theorem dX2_put_68 : decode cX2_put 68 = .ok (.bastore, 1) := by decide +kernel
theorem dX2_put_69 : decode cX2_put 69 = .ok (.aload_n 0, 1) := by decide +kernel
theorem dX2_put_70 : decode cX2_put 70 = .ok (.getfield 18, 3) := by decide +kernel
theorem dX2_put_73 : decode cX2_put 73 = .ok (.aload_n 0, 1) := by decide +kernel
theorem dX2_put_74 : decode cX2_put 74 = .ok (.getfield 50, 3) := by decide +kernel
theorem dX2_put_77 : decode cX2_put 77 = .ok (.iload_n 2, 1) := by decide +kernel
theorem dX2_put_78 : decode cX2_put 78 = .ok (.i2b, 1) := by decide +kernel
theorem dX2_put_79 : decode cX2_put 79 = .ok (.bastore, 1) := by decide +kernel
theorem dX2_put_80 : decode cX2_put 80 = .ok (.aload_n 0, 1) := by decide +kernel
theorem dX2_put_81 : decode cX2_put 81 = .ok (.dup, 1) := by decide +kernel
theorem dX2_put_82 : decode cX2_put 82 = .ok (.getfield 50, 3) := by decide +kernel
theorem dX2_put_85 : decode cX2_put 85 = .ok (.iconst 1, 1) := by decide +kernel
theorem dX2_put_86 : decode cX2_put 86 = .ok (.iadd, 1) := by decide +kernel
theorem dX2_put_87 : decode cX2_put 87 = .ok (.putfield 50, 3) := by decide +kernel
theorem dX2_put_90 : decode cX2_put 90 = .ok (.return_, 1) := by decide +kernel
theorem dX3_init_0 : decode cX3_init 0 = .ok (.aload_n 0, 1) := by decide +kernel
theorem dX3_init_1 : decode cX3_init 1 = .ok (.invokespecial 3, 3) := by decide +kernel
theorem dX3_init_4 : decode cX3_init 4 = .ok (.aload_n 0, 1) := by decide +kernel
theorem dX3_init_5 : decode cX3_init 5 = .ok (.aconst_null, 1) := by decide +kernel
theorem dX3_init_6 : decode cX3_init 6 = .ok (.putfield 9, 3) := by decide +kernel
theorem dX3_init_9 : decode cX3_init 9 = .ok (.aload_n 0, 1) := by decide +kernel
theorem dX3_init_10 : decode cX3_init 10 = .ok (.iconst 0, 1) := by decide +kernel
theorem dX3_init_11 : decode cX3_init 11 = .ok (.putfield 15, 3) := by decide +kernel
theorem dX3_init_14 : decode cX3_init 14 = .ok (.aload_n 0, 1) := by decide +kernel
theorem dX3_init_15 : decode cX3_init 15 = .ok (.new 19, 3) := by decide +kernel
theorem dX3_init_18 : decode cX3_init 18 = .ok (.dup, 1) := by decide +kernel
theorem dX3_init_19 : decode cX3_init 19 = .ok (.invokespecial 21, 3) := by decide +kernel
theorem dX3_init_22 : decode cX3_init 22 = .ok (.putfield 22, 3) := by decide +kernel
theorem dX3_init_25 : decode cX3_init 25 = .ok (.aload_n 0, 1) := by decide +kernel
theorem dX3_init_26 : decode cX3_init 26 = .ok (.iload_n 1, 1) := by decide +kernel
theorem dX3_init_27 : decode cX3_init 27 = .ok (.putfield 26, 3) := by decide +kernel
theorem dX3_init_30 : decode cX3_init 30 = .ok (.aload_n 0, 1) := by decide +kernel
theorem dX3_init_31 : decode cX3_init 31 = .ok (.aload_n 2, 1) := by decide +kernel
theorem dX3_init_32 : decode cX3_init 32 = .ok (.putfield 30, 3) := by decide +kernel
theorem dX3_init_35 : decode cX3_init 35 = .ok (.aload_n 0, 1) := by decide +kernel
theorem dX3_init_36 : decode cX3_init 36 = .ok (.sipush 1000, 3) := by decide +kernel
theorem dX3_init_39 : decode cX3_init 39 = .ok (.iload_n 1, 1) := by decide +kernel
theorem dX3_init_40 : decode cX3_init 40 = .ok (.iadd, 1) := by decide +kernel
theorem dX3_init_41 : decode cX3_init 41 = .ok (.putfield 34, 3) := by decide +kernel
theorem dX3_init_44 : decode cX3_init 44 = .ok (.return_, 1) := by decide +kernel
theorem dX3_hasFullChain_0 : decode cX3_hasFullChain 0 = .ok (.aload_n 0, 1) := by decide +kernel
theorem dX3_hasFullChain_1 : decode cX3_hasFullChain 1 = .ok (.getfield 22, 3) := by decide +kernel
theorem dX3_hasFullChain_4 : decode cX3_hasFullChain 4 = .ok (.invokevirtual 37, 3) := by decide +kernel
theorem dX3_hasFullChain_7 : decode cX3_hasFullChain 7 = .ok (.bipush 12, 2) := by decide +kernel
theorem dX3_hasFullChain_9 : decode cX3_hasFullChain 9 = .ok (.if_icmp .lt 7, 3) := by decide +kernel
theorem dX3_hasFullChain_12 : decode cX3_hasFullChain 12 = .ok (.iconst 1, 1) := by decide +kernel
theorem dX3_hasFullChain_13 : decode cX3_hasFullChain 13 = .ok (.goto 4, 3) := by decide +kernel
theorem dX3_hasFullChain_16 : decode cX3_hasFullChain 16 = .ok (.iconst 0, 1) := by decide +kernel
theorem dX3_hasFullChain_17 : decode cX3_hasFullChain 17 = .ok (.ireturn, 1) := by decide +kernel
theorem dX3_addLink_0 : decode cX3_addLink 0 = .ok (.aload_n 0, 1) := by decide +kernel
theorem dX3_addLink_1 : decode cX3_addLink 1 = .ok (.getfield 22, 3) := by decide +kernel
theorem dX3_addLink_4 : decode cX3_addLink 4 = .ok (.aload_n 1, 1) := by decide +kernel
theorem dX3_addLink_5 : decode cX3_addLink 5 = .ok (.invokevirtual 41, 3) := by decide +kernel
theorem dX3_addLink_8 : decode cX3_addLink 8 = .ok (.pop, 1) := by decide +kernel
theorem dX3_addLink_9 : decode cX3_addLink 9 = .ok (.return_, 1) := by decide +kernel
theorem dX3_countGaps_0 : decode cX3_countGaps 0 = .ok (.iconst 0, 1) := by decide +kernel
theorem dX3_countGaps_1 : decode cX3_countGaps 1 = .ok (.istore_n 1, 1) := by decide +kernel
theorem dX3_countGaps_2 : decode cX3_countGaps 2 = .ok (.iconst 0, 1) := by decide +kernel
theorem dX3_countGaps_3 : decode cX3_countGaps 3 = .ok (.istore_n 2, 1) := by decide +kernel
theorem dX3_countGaps_4 : decode cX3_countGaps 4 = .ok (.iload_n 2, 1) := by decide +kernel
theorem dX3_countGaps_5 : decode cX3_countGaps 5 = .ok (.aload_n 0, 1) := by decide +kernel
theorem dX3_countGaps_6 : decode cX3_countGaps 6 = .ok (.getfield 22, 3) := by decide +kernel
theorem dX3_countGaps_9 : decode cX3_countGaps 9 = .ok (.invokevirtual 37, 3) := by decide +kernel
theorem dX3_countGaps_12 : decode cX3_countGaps 12 = .ok (.if_icmp .ge 30, 3) := by decide +kernel
theorem dX3_countGaps_15 : decode cX3_countGaps 15 = .ok (.aload_n 0, 1) := by decide +kernel
theorem dX3_countGaps_16 : decode cX3_countGaps 16 = .ok (.getfield 22, 3) := by decide +kernel
theorem dX3_countGaps_19 : decode cX3_countGaps 19 = .ok (.iload_n 2, 1) := by decide +kernel
theorem dX3_countGaps_20 : decode cX3_countGaps 20 = .ok (.invokevirtual 45, 3) := by decide +kernel
theorem dX3_countGaps_23 : decode cX3_countGaps 23 = .ok (.checkcast 49, 3) := by decide +kernel
theorem dX3_countGaps_26 : decode cX3_countGaps 26 = .ok (.getfield 51, 3) := by decide +kernel
theorem dX3_countGaps_29 : decode cX3_countGaps 29 = .ok (.iconst 1, 1) := by decide +kernel
theorem dX3_countGaps_30 : decode cX3_countGaps 30 = .ok (.if_icmp .ne 6, 3) := by decide +kernel
theorem dX3_countGaps_33 : decode cX3_countGaps 33 = .ok (.iinc 1 1, 3) := by decide +kernel
theorem dX3_countGaps_36 : decode cX3_countGaps 36 = .ok (.iinc 2 1, 3) := by decide +kernel
theorem dX3_countGaps_39 : decode cX3_countGaps 39 = .ok (.goto (-35), 3) := by decide +kernel
theorem dX3_countGaps_42 : decode cX3_countGaps 42 = .ok (.iload_n 1, 1) := by decide +kernel
theorem dX3_countGaps_43 : decode cX3_countGaps 43 = .ok (.ireturn, 1) := by decide +kernel
theorem dX3_canBeAdmitted_0 : decode cX3_canBeAdmitted 0 = .ok (.aload_n 0, 1) := by decide +kernel
theorem dX3_canBeAdmitted_1 : decode cX3_canBeAdmitted 1 = .ok (.getfield 15, 3) := by decide +kernel
theorem dX3_canBeAdmitted_4 : decode cX3_canBeAdmitted 4 = .ok (.ifCond .ne 31, 3) := by decide +kernel
theorem dX3_canBeAdmitted_7 : decode cX3_canBeAdmitted 7 = .ok (.aload_n 0, 1) := by decide +kernel
theorem dX3_canBeAdmitted_8 : decode cX3_canBeAdmitted 8 = .ok (.getfield 9, 3) := by decide +kernel
theorem dX3_canBeAdmitted_11 : decode cX3_canBeAdmitted 11 = .ok (.ifnull 26, 3) := by decide +kernel
theorem dX3_canBeAdmitted_14 : decode cX3_canBeAdmitted 14 = .ok (.aload_n 0, 1) := by decide +kernel
theorem dX3_canBeAdmitted_15 : decode cX3_canBeAdmitted 15 = .ok (.getfield 9, 3) := by decide +kernel
theorem dX3_canBeAdmitted_18 : decode cX3_canBeAdmitted 18 = .ok (.getfield 54, 3) := by decide +kernel
theorem dX3_canBeAdmitted_21 : decode cX3_canBeAdmitted 21 = .ok (.iconst 1, 1) := by decide +kernel
theorem dX3_canBeAdmitted_22 : decode cX3_canBeAdmitted 22 = .ok (.if_icmp .eq 15, 3) := by decide +kernel
theorem dX3_canBeAdmitted_25 : decode cX3_canBeAdmitted 25 = .ok (.aload_n 0, 1) := by decide +kernel
theorem dX3_canBeAdmitted_26 : decode cX3_canBeAdmitted 26 = .ok (.getfield 9, 3) := by decide +kernel
theorem dX3_canBeAdmitted_29 : decode cX3_canBeAdmitted 29 = .ok (.getfield 54, 3) := by decide +kernel
theorem dX3_canBeAdmitted_32 : decode cX3_canBeAdmitted 32 = .ok (.ifCond .eq 5, 3) := by decide +kernel
theorem dX3_canBeAdmitted_35 : decode cX3_canBeAdmitted 35 = .ok (.iconst 0, 1) := by decide +kernel
theorem dX3_canBeAdmitted_36 : decode cX3_canBeAdmitted 36 = .ok (.ireturn, 1) := by decide +kernel
theorem dX3_canBeAdmitted_37 : decode cX3_canBeAdmitted 37 = .ok (.iconst 0, 1) := by decide +kernel
theorem dX3_canBeAdmitted_38 : decode cX3_canBeAdmitted 38 = .ok (.istore_n 1, 1) := by decide +kernel
theorem dX3_canBeAdmitted_39 : decode cX3_canBeAdmitted 39 = .ok (.iload_n 1, 1) := by decide +kernel
theorem dX3_canBeAdmitted_40 : decode cX3_canBeAdmitted 40 = .ok (.aload_n 0, 1) := by decide +kernel
theorem dX3_canBeAdmitted_41 : decode cX3_canBeAdmitted 41 = .ok (.getfield 22, 3) := by decide +kernel
theorem dX3_canBeAdmitted_44 : decode cX3_canBeAdmitted 44 = .ok (.invokevirtual 37, 3) := by decide +kernel
theorem dX3_canBeAdmitted_47 : decode cX3_canBeAdmitted 47 = .ok (.if_icmp .ge 28, 3) := by decide +kernel
theorem dX3_canBeAdmitted_50 : decode cX3_canBeAdmitted 50 = .ok (.aload_n 0, 1) := by decide +kernel
theorem dX3_canBeAdmitted_51 : decode cX3_canBeAdmitted 51 = .ok (.getfield 22, 3) := by decide +kernel
theorem dX3_canBeAdmitted_54 : decode cX3_canBeAdmitted 54 = .ok (.iload_n 1, 1) := by decide +kernel
theorem dX3_canBeAdmitted_55 : decode cX3_canBeAdmitted 55 = .ok (.invokevirtual 45, 3) := by decide +kernel
theorem dX3_canBeAdmitted_58 : decode cX3_canBeAdmitted 58 = .ok (.checkcast 49, 3) := by decide +kernel
theorem dX3_canBeAdmitted_61 : decode cX3_canBeAdmitted 61 = .ok (.invokevirtual 59, 3) := by decide +kernel
theorem dX3_canBeAdmitted_64 : decode cX3_canBeAdmitted 64 = .ok (.ifCond .eq 5, 3) := by decide +kernel
theorem dX3_canBeAdmitted_67 : decode cX3_canBeAdmitted 67 = .ok (.iconst 0, 1) := by decide +kernel
theorem dX3_canBeAdmitted_68 : decode cX3_canBeAdmitted 68 = .ok (.ireturn, 1) := by decide +kernel
theorem dX3_canBeAdmitted_69 : decode cX3_canBeAdmitted 69 = .ok (.iinc 1 1, 3) := by decide +kernel
theorem dX3_canBeAdmitted_72 : decode cX3_canBeAdmitted 72 = .ok (.goto (-33), 3) := by decide +kernel
theorem dX3_canBeAdmitted_75 : decode cX3_canBeAdmitted 75 = .ok (.iconst 1, 1) := by decide +kernel
theorem dX3_canBeAdmitted_76 : decode cX3_canBeAdmitted 76 = .ok (.ireturn, 1) := by decide +kernel
theorem dX4_init_0 : decode cX4_init 0 = .ok (.aload_n 0, 1) := by decide +kernel
theorem dX4_init_1 : decode cX4_init 1 = .ok (.invokespecial 3, 3) := by decide +kernel
theorem dX4_init_4 : decode cX4_init 4 = .ok (.aload_n 0, 1) := by decide +kernel
theorem dX4_init_5 : decode cX4_init 5 = .ok (.iconst 0, 1) := by decide +kernel
theorem dX4_init_6 : decode cX4_init 6 = .ok (.putfield 9, 3) := by decide +kernel
theorem dX4_init_9 : decode cX4_init 9 = .ok (.aload_n 0, 1) := by decide +kernel
theorem dX4_init_10 : decode cX4_init 10 = .ok (.iconst (-1), 1) := by decide +kernel
theorem dX4_init_11 : decode cX4_init 11 = .ok (.putfield 15, 3) := by decide +kernel
theorem dX4_init_14 : decode cX4_init 14 = .ok (.aload_n 0, 1) := by decide +kernel
theorem dX4_init_15 : decode cX4_init 15 = .ok (.aload_n 1, 1) := by decide +kernel
theorem dX4_init_16 : decode cX4_init 16 = .ok (.putfield 18, 3) := by decide +kernel
theorem dX4_init_19 : decode cX4_init 19 = .ok (.aload_n 0, 1) := by decide +kernel
theorem dX4_init_20 : decode cX4_init 20 = .ok (.iload_n 2, 1) := by decide +kernel
theorem dX4_init_21 : decode cX4_init 21 = .ok (.putfield 22, 3) := by decide +kernel
theorem dX4_init_24 : decode cX4_init 24 = .ok (.aload_n 0, 1) := by decide +kernel
theorem dX4_init_25 : decode cX4_init 25 = .ok (.aload_n 3, 1) := by decide +kernel
theorem dX4_init_26 : decode cX4_init 26 = .ok (.putfield 25, 3) := by decide +kernel
theorem dX4_init_29 : decode cX4_init 29 = .ok (.aload_n 0, 1) := by decide +kernel
theorem dX4_init_30 : decode cX4_init 30 = .ok (.iload 4, 2) := by decide +kernel
theorem dX4_init_32 : decode cX4_init 32 = .ok (.putfield 29, 3) := by decide +kernel
theorem dX4_init_35 : decode cX4_init 35 = .ok (.return_, 1) := by decide +kernel
theorem dX5_init_0 : decode cX5_init 0 = .ok (.aload_n 0, 1) := by decide +kernel
theorem dX5_init_1 : decode cX5_init 1 = .ok (.invokespecial 3, 3) := by decide +kernel
theorem dX5_init_4 : decode cX5_init 4 = .ok (.aload_n 0, 1) := by decide +kernel
theorem dX5_init_5 : decode cX5_init 5 = .ok (.iload_n 1, 1) := by decide +kernel
theorem dX5_init_6 : decode cX5_init 6 = .ok (.putfield 9, 3) := by decide +kernel
theorem dX5_init_9 : decode cX5_init 9 = .ok (.aload_n 0, 1) := by decide +kernel
theorem dX5_init_10 : decode cX5_init 10 = .ok (.aload_n 2, 1) := by decide +kernel
theorem dX5_init_11 : decode cX5_init 11 = .ok (.putfield 15, 3) := by decide +kernel
theorem dX5_init_14 : decode cX5_init 14 = .ok (.aload_n 0, 1) := by decide +kernel
theorem dX5_init_15 : decode cX5_init 15 = .ok (.aload_n 3, 1) := by decide +kernel
theorem dX5_init_16 : decode cX5_init 16 = .ok (.putfield 19, 3) := by decide +kernel
theorem dX5_init_19 : decode cX5_init 19 = .ok (.aload_n 0, 1) := by decide +kernel
theorem dX5_init_20 : decode cX5_init 20 = .ok (.iload 4, 2) := by decide +kernel
theorem dX5_init_22 : decode cX5_init 22 = .ok (.putfield 22, 3) := by decide +kernel
theorem dX5_init_25 : decode cX5_init 25 = .ok (.return_, 1) := by decide +kernel
theorem dX5_taints_0 : decode cX5_taints 0 = .ok (.aload_n 0, 1) := by decide +kernel
theorem dX5_taints_1 : decode cX5_taints 1 = .ok (.getfield 22, 3) := by decide +kernel
theorem dX5_taints_4 : decode cX5_taints 4 = .ok (.iconst 1, 1) := by decide +kernel
theorem dX5_taints_5 : decode cX5_taints 5 = .ok (.if_icmp .ne 5, 3) := by decide +kernel
theorem dX5_taints_8 : decode cX5_taints 8 = .ok (.iconst 1, 1) := by decide +kernel
theorem dX5_taints_9 : decode cX5_taints 9 = .ok (.ireturn, 1) := by decide +kernel
theorem dX5_taints_10 : decode cX5_taints 10 = .ok (.aload_n 0, 1) := by decide +kernel
theorem dX5_taints_11 : decode cX5_taints 11 = .ok (.getfield 19, 3) := by decide +kernel
theorem dX5_taints_14 : decode cX5_taints 14 = .ok (.ifnonnull 5, 3) := by decide +kernel
theorem dX5_taints_17 : decode cX5_taints 17 = .ok (.iconst 0, 1) := by decide +kernel
theorem dX5_taints_18 : decode cX5_taints 18 = .ok (.ireturn, 1) := by decide +kernel
theorem dX5_taints_19 : decode cX5_taints 19 = .ok (.aload_n 0, 1) := by decide +kernel
theorem dX5_taints_20 : decode cX5_taints 20 = .ok (.getfield 19, 3) := by decide +kernel
theorem dX5_taints_23 : decode cX5_taints 23 = .ok (.getfield 25, 3) := by decide +kernel
theorem dX5_taints_26 : decode cX5_taints 26 = .ok (.iconst 3, 1) := by decide +kernel
theorem dX5_taints_27 : decode cX5_taints 27 = .ok (.if_icmp .eq 22, 3) := by decide +kernel
theorem dX5_taints_30 : decode cX5_taints 30 = .ok (.aload_n 0, 1) := by decide +kernel
theorem dX5_taints_31 : decode cX5_taints 31 = .ok (.getfield 22, 3) := by decide +kernel
theorem dX5_taints_34 : decode cX5_taints 34 = .ok (.iconst 2, 1) := by decide +kernel
theorem dX5_taints_35 : decode cX5_taints 35 = .ok (.if_icmp .ne 18, 3) := by decide +kernel
theorem dX5_taints_38 : decode cX5_taints 38 = .ok (.aload_n 0, 1) := by decide +kernel
theorem dX5_taints_39 : decode cX5_taints 39 = .ok (.getfield 19, 3) := by decide +kernel
theorem dX5_taints_42 : decode cX5_taints 42 = .ok (.getfield 25, 3) := by decide +kernel
theorem dX5_taints_45 : decode cX5_taints 45 = .ok (.iconst 1, 1) := by decide +kernel
theorem dX5_taints_46 : decode cX5_taints 46 = .ok (.if_icmp .eq 7, 3) := by decide +kernel
theorem dX5_taints_49 : decode cX5_taints 49 = .ok (.iconst 1, 1) := by decide +kernel
theorem dX5_taints_50 : decode cX5_taints 50 = .ok (.goto 4, 3) := by decide +kernel
theorem dX5_taints_53 : decode cX5_taints 53 = .ok (.iconst 0, 1) := by decide +kernel
theorem dX5_taints_54 : decode cX5_taints 54 = .ok (.ireturn, 1) := by decide +kernel
theorem dX6_init_0 : decode cX6_init 0 = .ok (.aload_n 0, 1) := by decide +kernel
theorem dX6_init_1 : decode cX6_init 1 = .ok (.invokespecial 3, 3) := by decide +kernel
theorem dX6_init_4 : decode cX6_init 4 = .ok (.aload_n 0, 1) := by decide +kernel
theorem dX6_init_5 : decode cX6_init 5 = .ok (.iconst 0, 1) := by decide +kernel
theorem dX6_init_6 : decode cX6_init 6 = .ok (.putfield 9, 3) := by decide +kernel
theorem dX6_init_9 : decode cX6_init 9 = .ok (.aload_n 0, 1) := by decide +kernel
theorem dX6_init_10 : decode cX6_init 10 = .ok (.iconst 0, 1) := by decide +kernel
theorem dX6_init_11 : decode cX6_init 11 = .ok (.putfield 15, 3) := by decide +kernel
theorem dX6_init_14 : decode cX6_init 14 = .ok (.aload_n 0, 1) := by decide +kernel
theorem dX6_init_15 : decode cX6_init 15 = .ok (.iload_n 1, 1) := by decide +kernel
theorem dX6_init_16 : decode cX6_init 16 = .ok (.putfield 18, 3) := by decide +kernel
theorem dX6_init_19 : decode cX6_init 19 = .ok (.aload_n 0, 1) := by decide +kernel
theorem dX6_init_20 : decode cX6_init 20 = .ok (.iload_n 2, 1) := by decide +kernel
theorem dX6_init_21 : decode cX6_init 21 = .ok (.putfield 21, 3) := by decide +kernel
theorem dX6_init_24 : decode cX6_init 24 = .ok (.aload_n 0, 1) := by decide +kernel
theorem dX6_init_25 : decode cX6_init 25 = .ok (.iload_n 3, 1) := by decide +kernel
theorem dX6_init_26 : decode cX6_init 26 = .ok (.putfield 24, 3) := by decide +kernel
theorem dX6_init_29 : decode cX6_init 29 = .ok (.return_, 1) := by decide +kernel
theorem dX6_isAttachedTo_0 : decode cX6_isAttachedTo 0 = .ok (.aload_n 0, 1) := by decide +kernel
theorem dX6_isAttachedTo_1 : decode cX6_isAttachedTo 1 = .ok (.getfield 9, 3) := by decide +kernel
theorem dX6_isAttachedTo_4 : decode cX6_isAttachedTo 4 = .ok (.aload_n 1, 1) := by decide +kernel
theorem dX6_isAttachedTo_5 : decode cX6_isAttachedTo 5 = .ok (.getfield 27, 3) := by decide +kernel
theorem dX6_isAttachedTo_8 : decode cX6_isAttachedTo 8 = .ok (.ishr, 1) := by decide +kernel
theorem dX6_isAttachedTo_9 : decode cX6_isAttachedTo 9 = .ok (.iconst 1, 1) := by decide +kernel
theorem dX6_isAttachedTo_10 : decode cX6_isAttachedTo 10 = .ok (.iand, 1) := by decide +kernel
theorem dX6_isAttachedTo_11 : decode cX6_isAttachedTo 11 = .ok (.iconst 1, 1) := by decide +kernel
theorem dX6_isAttachedTo_12 : decode cX6_isAttachedTo 12 = .ok (.if_icmp .ne 7, 3) := by decide +kernel
theorem dX6_isAttachedTo_15 : decode cX6_isAttachedTo 15 = .ok (.iconst 1, 1) := by decide +kernel
theorem dX6_isAttachedTo_16 : decode cX6_isAttachedTo 16 = .ok (.goto 4, 3) := by decide +kernel
theorem dX6_isAttachedTo_19 : decode cX6_isAttachedTo 19 = .ok (.iconst 0, 1) := by decide +kernel
theorem dX6_isAttachedTo_20 : decode cX6_isAttachedTo 20 = .ok (.ireturn, 1) := by decide +kernel
theorem dX6_reachInto_0 : decode cX6_reachInto 0 = .ok (.aload_n 0, 1) := by decide +kernel
theorem dX6_reachInto_1 : decode cX6_reachInto 1 = .ok (.aload_n 1, 1) := by decide +kernel
theorem dX6_reachInto_2 : decode cX6_reachInto 2 = .ok (.invokevirtual 30, 3) := by decide +kernel
theorem dX6_reachInto_5 : decode cX6_reachInto 5 = .ok (.ifCond .eq 15, 3) := by decide +kernel
theorem dX6_reachInto_8 : decode cX6_reachInto 8 = .ok (.aload_n 0, 1) := by decide +kernel
theorem dX6_reachInto_9 : decode cX6_reachInto 9 = .ok (.aload_n 0, 1) := by decide +kernel
theorem dX6_reachInto_10 : decode cX6_reachInto 10 = .ok (.getfield 24, 3) := by decide +kernel
theorem dX6_reachInto_13 : decode cX6_reachInto 13 = .ok (.aload_n 1, 1) := by decide +kernel
theorem dX6_reachInto_14 : decode cX6_reachInto 14 = .ok (.invokevirtual 34, 3) := by decide +kernel
theorem dX6_reachInto_17 : decode cX6_reachInto 17 = .ok (.goto 4, 3) := by decide +kernel
theorem dX6_reachInto_20 : decode cX6_reachInto 20 = .ok (.iconst (-1), 1) := by decide +kernel
theorem dX6_reachInto_21 : decode cX6_reachInto 21 = .ok (.ireturn, 1) := by decide +kernel
theorem dX6_reachWith_0 : decode cX6_reachWith 0 = .ok (.aload_n 0, 1) := by decide +kernel
theorem dX6_reachWith_1 : decode cX6_reachWith 1 = .ok (.getfield 21, 3) := by decide +kernel
theorem dX6_reachWith_4 : decode cX6_reachWith 4 = .ok (.iconst 1, 1) := by decide +kernel
theorem dX6_reachWith_5 : decode cX6_reachWith 5 = .ok (.if_icmp .ne 6, 3) := by decide +kernel
theorem dX6_reachWith_8 : decode cX6_reachWith 8 = .ok (.bipush 9, 2) := by decide +kernel
theorem dX6_reachWith_10 : decode cX6_reachWith 10 = .ok (.ireturn, 1) := by decide +kernel
theorem dX6_reachWith_11 : decode cX6_reachWith 11 = .ok (.bipush 9, 2) := by decide +kernel
theorem dX6_reachWith_13 : decode cX6_reachWith 13 = .ok (.aload_n 0, 1) := by decide +kernel
theorem dX6_reachWith_14 : decode cX6_reachWith 14 = .ok (.aload_n 2, 1) := by decide +kernel
theorem dX6_reachWith_15 : decode cX6_reachWith 15 = .ok (.invokevirtual 38, 3) := by decide +kernel
theorem dX6_reachWith_18 : decode cX6_reachWith 18 = .ok (.ifCond .eq 9, 3) := by decide +kernel
theorem dX6_reachWith_21 : decode cX6_reachWith 21 = .ok (.iload_n 1, 1) := by decide +kernel
theorem dX6_reachWith_22 : decode cX6_reachWith 22 = .ok (.iconst 2, 1) := by decide +kernel
theorem dX6_reachWith_23 : decode cX6_reachWith 23 = .ok (.iadd, 1) := by decide +kernel
theorem dX6_reachWith_24 : decode cX6_reachWith 24 = .ok (.goto 4, 3) := by decide +kernel
theorem dX6_reachWith_27 : decode cX6_reachWith 27 = .ok (.iload_n 1, 1) := by decide +kernel
theorem dX6_reachWith_28 : decode cX6_reachWith 28 = .ok (.invokestatic 41, 3) := by decide +kernel
theorem dX6_reachWith_31 : decode cX6_reachWith 31 = .ok (.ireturn, 1) := by decide +kernel
theorem dX6_canSeeInto_0 : decode cX6_canSeeInto 0 = .ok (.aload_n 1, 1) := by decide +kernel
theorem dX6_canSeeInto_1 : decode cX6_canSeeInto 1 = .ok (.getfield 47, 3) := by decide +kernel
theorem dX6_canSeeInto_4 : decode cX6_canSeeInto 4 = .ok (.aload_n 0, 1) := by decide +kernel
theorem dX6_canSeeInto_5 : decode cX6_canSeeInto 5 = .ok (.aload_n 0, 1) := by decide +kernel
theorem dX6_canSeeInto_6 : decode cX6_canSeeInto 6 = .ok (.getfield 24, 3) := by decide +kernel
theorem dX6_canSeeInto_9 : decode cX6_canSeeInto 9 = .ok (.aload_n 1, 1) := by decide +kernel
theorem dX6_canSeeInto_10 : decode cX6_canSeeInto 10 = .ok (.invokevirtual 34, 3) := by decide +kernel
theorem dX6_canSeeInto_13 : decode cX6_canSeeInto 13 = .ok (.if_icmp .gt 7, 3) := by decide +kernel
theorem dX6_canSeeInto_16 : decode cX6_canSeeInto 16 = .ok (.iconst 1, 1) := by decide +kernel
theorem dX6_canSeeInto_17 : decode cX6_canSeeInto 17 = .ok (.goto 4, 3) := by decide +kernel
theorem dX6_canSeeInto_20 : decode cX6_canSeeInto 20 = .ok (.iconst 0, 1) := by decide +kernel
theorem dX6_canSeeInto_21 : decode cX6_canSeeInto 21 = .ok (.ireturn, 1) := by decide +kernel
theorem dX6_warn_0 : decode cX6_warn 0 = .ok (.aload_n 0, 1) := by decide +kernel
theorem dX6_warn_1 : decode cX6_warn 1 = .ok (.dup, 1) := by decide +kernel
theorem dX6_warn_2 : decode cX6_warn 2 = .ok (.getfield 15, 3) := by decide +kernel
theorem dX6_warn_5 : decode cX6_warn 5 = .ok (.iconst 1, 1) := by decide +kernel
theorem dX6_warn_6 : decode cX6_warn 6 = .ok (.iadd, 1) := by decide +kernel
theorem dX6_warn_7 : decode cX6_warn 7 = .ok (.putfield 15, 3) := by decide +kernel
theorem dX6_warn_10 : decode cX6_warn 10 = .ok (.aload_n 0, 1) := by decide +kernel
theorem dX6_warn_11 : decode cX6_warn 11 = .ok (.getfield 15, 3) := by decide +kernel
theorem dX6_warn_14 : decode cX6_warn 14 = .ok (.iconst 3, 1) := by decide +kernel
theorem dX6_warn_15 : decode cX6_warn 15 = .ok (.if_icmp .lt 22, 3) := by decide +kernel
theorem dX6_warn_18 : decode cX6_warn 18 = .ok (.aload_n 0, 1) := by decide +kernel
theorem dX6_warn_19 : decode cX6_warn 19 = .ok (.iconst 0, 1) := by decide +kernel
theorem dX6_warn_20 : decode cX6_warn 20 = .ok (.putfield 15, 3) := by decide +kernel
theorem dX6_warn_23 : decode cX6_warn 23 = .ok (.aload_n 0, 1) := by decide +kernel
theorem dX6_warn_24 : decode cX6_warn 24 = .ok (.iconst 0, 1) := by decide +kernel
theorem dX6_warn_25 : decode cX6_warn 25 = .ok (.aload_n 0, 1) := by decide +kernel
theorem dX6_warn_26 : decode cX6_warn 26 = .ok (.getfield 24, 3) := by decide +kernel
theorem dX6_warn_29 : decode cX6_warn 29 = .ok (.iconst 1, 1) := by decide +kernel
theorem dX6_warn_30 : decode cX6_warn 30 = .ok (.isub, 1) := by decide +kernel
theorem dX6_warn_31 : decode cX6_warn 31 = .ok (.invokestatic 50, 3) := by decide +kernel
theorem dX6_warn_34 : decode cX6_warn 34 = .ok (.putfield 24, 3) := by decide +kernel
theorem dX6_warn_37 : decode cX6_warn 37 = .ok (.return_, 1) := by decide +kernel
theorem dX7_init_0 : decode cX7_init 0 = .ok (.aload_n 0, 1) := by decide +kernel
theorem dX7_init_1 : decode cX7_init 1 = .ok (.invokespecial 3, 3) := by decide +kernel
theorem dX7_init_4 : decode cX7_init 4 = .ok (.aload_n 0, 1) := by decide +kernel
theorem dX7_init_5 : decode cX7_init 5 = .ok (.new 9, 3) := by decide +kernel
theorem dX7_init_8 : decode cX7_init 8 = .ok (.dup, 1) := by decide +kernel
theorem dX7_init_9 : decode cX7_init 9 = .ok (.invokespecial 11, 3) := by decide +kernel
theorem dX7_init_12 : decode cX7_init 12 = .ok (.putfield 12, 3) := by decide +kernel
theorem dX7_init_15 : decode cX7_init 15 = .ok (.aload_n 0, 1) := by decide +kernel
theorem dX7_init_16 : decode cX7_init 16 = .ok (.new 9, 3) := by decide +kernel
theorem dX7_init_19 : decode cX7_init 19 = .ok (.dup, 1) := by decide +kernel
theorem dX7_init_20 : decode cX7_init 20 = .ok (.invokespecial 11, 3) := by decide +kernel
theorem dX7_init_23 : decode cX7_init 23 = .ok (.putfield 16, 3) := by decide +kernel
theorem dX7_init_26 : decode cX7_init 26 = .ok (.aload_n 0, 1) := by decide +kernel
theorem dX7_init_27 : decode cX7_init 27 = .ok (.new 9, 3) := by decide +kernel
theorem dX7_init_30 : decode cX7_init 30 = .ok (.dup, 1) := by decide +kernel
theorem dX7_init_31 : decode cX7_init 31 = .ok (.invokespecial 11, 3) := by decide +kernel
theorem dX7_init_34 : decode cX7_init 34 = .ok (.putfield 19, 3) := by decide +kernel
theorem dX7_init_37 : decode cX7_init 37 = .ok (.aload_n 0, 1) := by decide +kernel
theorem dX7_init_38 : decode cX7_init 38 = .ok (.new 9, 3) := by decide +kernel
theorem dX7_init_41 : decode cX7_init 41 = .ok (.dup, 1) := by decide +kernel
theorem dX7_init_42 : decode cX7_init 42 = .ok (.invokespecial 11, 3) := by decide +kernel
theorem dX7_init_45 : decode cX7_init 45 = .ok (.putfield 22, 3) := by decide +kernel
theorem dX7_init_48 : decode cX7_init 48 = .ok (.aload_n 0, 1) := by decide +kernel
theorem dX7_init_49 : decode cX7_init 49 = .ok (.new 9, 3) := by decide +kernel
theorem dX7_init_52 : decode cX7_init 52 = .ok (.dup, 1) := by decide +kernel
theorem dX7_init_53 : decode cX7_init 53 = .ok (.invokespecial 11, 3) := by decide +kernel
theorem dX7_init_56 : decode cX7_init 56 = .ok (.putfield 25, 3) := by decide +kernel
theorem dX7_init_59 : decode cX7_init 59 = .ok (.aload_n 0, 1) := by decide +kernel
theorem dX7_init_60 : decode cX7_init 60 = .ok (.sipush 1000, 3) := by decide +kernel
theorem dX7_init_63 : decode cX7_init 63 = .ok (.newarray .int, 2) := by decide +kernel
theorem dX7_init_65 : decode cX7_init 65 = .ok (.putfield 28, 3) := by decide +kernel
theorem dX7_init_68 : decode cX7_init 68 = .ok (.aload_n 0, 1) := by decide +kernel
theorem dX7_init_69 : decode cX7_init 69 = .ok (.iconst 0, 1) := by decide +kernel
theorem dX7_init_70 : decode cX7_init 70 = .ok (.putfield 32, 3) := by decide +kernel
theorem dX7_init_73 : decode cX7_init 73 = .ok (.aload_n 0, 1) := by decide +kernel
theorem dX7_init_74 : decode cX7_init 74 = .ok (.sipush 2500, 3) := by decide +kernel
theorem dX7_init_77 : decode cX7_init 77 = .ok (.newarray .int, 2) := by decide +kernel
theorem dX7_init_79 : decode cX7_init 79 = .ok (.putfield 36, 3) := by decide +kernel
theorem dX7_init_82 : decode cX7_init 82 = .ok (.aload_n 0, 1) := by decide +kernel
theorem dX7_init_83 : decode cX7_init 83 = .ok (.iconst 0, 1) := by decide +kernel
theorem dX7_init_84 : decode cX7_init 84 = .ok (.putfield 39, 3) := by decide +kernel
theorem dX7_init_87 : decode cX7_init 87 = .ok (.aload_n 0, 1) := by decide +kernel
theorem dX7_init_88 : decode cX7_init 88 = .ok (.new 42, 3) := by decide +kernel
theorem dX7_init_91 : decode cX7_init 91 = .ok (.dup, 1) := by decide +kernel
theorem dX7_init_92 : decode cX7_init 92 = .ok (.invokespecial 44, 3) := by decide +kernel
theorem dX7_init_95 : decode cX7_init 95 = .ok (.putfield 45, 3) := by decide +kernel
theorem dX7_init_98 : decode cX7_init 98 = .ok (.aload_n 0, 1) := by decide +kernel
theorem dX7_init_99 : decode cX7_init 99 = .ok (.iconst (-1), 1) := by decide +kernel
theorem dX7_init_100 : decode cX7_init 100 = .ok (.putfield 49, 3) := by decide +kernel
theorem dX7_init_103 : decode cX7_init 103 = .ok (.aload_n 0, 1) := by decide +kernel
theorem dX7_init_104 : decode cX7_init 104 = .ok (.iconst 0, 1) := by decide +kernel
theorem dX7_init_105 : decode cX7_init 105 = .ok (.putfield 52, 3) := by decide +kernel
theorem dX7_init_108 : decode cX7_init 108 = .ok (.return_, 1) := by decide +kernel
theorem dX7_feed_0 : decode cX7_feed 0 = .ok (.aload_n 0, 1) := by decide +kernel
theorem dX7_feed_1 : decode cX7_feed 1 = .ok (.getfield 32, 3) := by decide +kernel
theorem dX7_feed_4 : decode cX7_feed 4 = .ok (.bipush 20, 2) := by decide +kernel
theorem dX7_feed_6 : decode cX7_feed 6 = .ok (.iadd, 1) := by decide +kernel
theorem dX7_feed_7 : decode cX7_feed 7 = .ok (.sipush 1000, 3) := by decide +kernel
theorem dX7_feed_10 : decode cX7_feed 10 = .ok (.if_icmp .le 13, 3) := by decide +kernel
theorem dX7_feed_13 : decode cX7_feed 13 = .ok (.new 55, 3) := by decide +kernel
theorem dX7_feed_16 : decode cX7_feed 16 = .ok (.dup, 1) := by decide +kernel
theorem dX7_feed_17 : decode cX7_feed 17 = .ok (.ldc 57, 2) := by decide +kernel
theorem dX7_feed_19 : decode cX7_feed 19 = .ok (.invokespecial 59, 3) := by decide +kernel
theorem dX7_feed_22 : decode cX7_feed 22 = .ok (.athrow, 1) := by decide +kernel
theorem dX7_feed_23 : decode cX7_feed 23 = .ok (.aload_n 0, 1) := by decide +kernel
theorem dX7_feed_24 : decode cX7_feed 24 = .ok (.iload_n 1, 1) := by decide +kernel
theorem dX7_feed_25 : decode cX7_feed 25 = .ok (.invokevirtual 62, 3) := by decide +kernel
theorem dX7_feed_28 : decode cX7_feed 28 = .ok (.aload_n 0, 1) := by decide +kernel
theorem dX7_feed_29 : decode cX7_feed 29 = .ok (.iload_n 2, 1) := by decide +kernel
theorem dX7_feed_30 : decode cX7_feed 30 = .ok (.invokevirtual 62, 3) := by decide +kernel
theorem dX7_feed_33 : decode cX7_feed 33 = .ok (.aload_n 0, 1) := by decide +kernel
theorem dX7_feed_34 : decode cX7_feed 34 = .ok (.iload_n 3, 1) := by decide +kernel
theorem dX7_feed_35 : decode cX7_feed 35 = .ok (.invokevirtual 62, 3) := by decide +kernel
theorem dX7_feed_38 : decode cX7_feed 38 = .ok (.aload_n 0, 1) := by decide +kernel
theorem dX7_feed_39 : decode cX7_feed 39 = .ok (.iload 4, 2) := by decide +kernel
theorem dX7_feed_41 : decode cX7_feed 41 = .ok (.invokevirtual 62, 3) := by decide +kernel
theorem dX7_feed_44 : decode cX7_feed 44 = .ok (.aload_n 0, 1) := by decide +kernel
theorem dX7_feed_45 : decode cX7_feed 45 = .ok (.iload 5, 2) := by decide +kernel
theorem dX7_feed_47 : decode cX7_feed 47 = .ok (.invokevirtual 62, 3) := by decide +kernel
theorem dX7_feed_50 : decode cX7_feed 50 = .ok (.aload_n 0, 1) := by decide +kernel
theorem dX7_feed_51 : decode cX7_feed 51 = .ok (.getfield 32, 3) := by decide +kernel
theorem dX7_feed_54 : decode cX7_feed 54 = .ok (.ireturn, 1) := by decide +kernel
theorem dX7_trim_0 : decode cX7_trim 0 = .ok (.iload_n 1, 1) := by decide +kernel
theorem dX7_trim_1 : decode cX7_trim 1 = .ok (.ifCond .lt 11, 3) := by decide +kernel
theorem dX7_trim_4 : decode cX7_trim 4 = .ok (.iload_n 1, 1) := by decide +kernel
theorem dX7_trim_5 : decode cX7_trim 5 = .ok (.aload_n 0, 1) := by decide +kernel
theorem dX7_trim_6 : decode cX7_trim 6 = .ok (.getfield 32, 3) := by decide +kernel
theorem dX7_trim_9 : decode cX7_trim 9 = .ok (.if_icmp .le 13, 3) := by decide +kernel
theorem dX7_trim_12 : decode cX7_trim 12 = .ok (.new 66, 3) := by decide +kernel
theorem dX7_trim_15 : decode cX7_trim 15 = .ok (.dup, 1) := by decide +kernel
theorem dX7_trim_16 : decode cX7_trim 16 = .ok (.ldc 68, 2) := by decide +kernel
theorem dX7_trim_18 : decode cX7_trim 18 = .ok (.invokespecial 70, 3) := by decide +kernel
theorem dX7_trim_21 : decode cX7_trim 21 = .ok (.athrow, 1) := by decide +kernel
theorem dX7_trim_22 : decode cX7_trim 22 = .ok (.aload_n 0, 1) := by decide +kernel
theorem dX7_trim_23 : decode cX7_trim 23 = .ok (.iload_n 1, 1) := by decide +kernel
theorem dX7_trim_24 : decode cX7_trim 24 = .ok (.putfield 32, 3) := by decide +kernel
theorem dX7_trim_27 : decode cX7_trim 27 = .ok (.iload_n 1, 1) := by decide +kernel
theorem dX7_trim_28 : decode cX7_trim 28 = .ok (.ireturn, 1) := by decide +kernel
theorem dX7_file_0 : decode cX7_file 0 = .ok (.aload_n 0, 1) := by decide +kernel
theorem dX7_file_1 : decode cX7_file 1 = .ok (.iload_n 1, 1) := by decide +kernel
theorem dX7_file_2 : decode cX7_file 2 = .ok (.invokevirtual 71, 3) := by decide +kernel
theorem dX7_file_5 : decode cX7_file 5 = .ok (.astore_n 2, 1) := by decide +kernel
theorem dX7_file_6 : decode cX7_file 6 = .ok (.aload_n 2, 1) := by decide +kernel
theorem dX7_file_7 : decode cX7_file 7 = .ok (.ifnonnull 13, 3) := by decide +kernel
theorem dX7_file_10 : decode cX7_file 10 = .ok (.new 75, 3) := by decide +kernel
theorem dX7_file_13 : decode cX7_file 13 = .ok (.dup, 1) := by decide +kernel
theorem dX7_file_14 : decode cX7_file 14 = .ok (.ldc 77, 2) := by decide +kernel
theorem dX7_file_16 : decode cX7_file 16 = .ok (.invokespecial 79, 3) := by decide +kernel
theorem dX7_file_19 : decode cX7_file 19 = .ok (.athrow, 1) := by decide +kernel
theorem dX7_file_20 : decode cX7_file 20 = .ok (.aload_n 0, 1) := by decide +kernel
theorem dX7_file_21 : decode cX7_file 21 = .ok (.getfield 19, 3) := by decide +kernel
theorem dX7_file_24 : decode cX7_file 24 = .ok (.invokevirtual 80, 3) := by decide +kernel
theorem dX7_file_27 : decode cX7_file 27 = .ok (.bipush 24, 2) := by decide +kernel
theorem dX7_file_29 : decode cX7_file 29 = .ok (.if_icmp .lt 13, 3) := by decide +kernel
theorem dX7_file_32 : decode cX7_file 32 = .ok (.new 55, 3) := by decide +kernel
theorem dX7_file_35 : decode cX7_file 35 = .ok (.dup, 1) := by decide +kernel
theorem dX7_file_36 : decode cX7_file 36 = .ok (.ldc 84, 2) := by decide +kernel
theorem dX7_file_38 : decode cX7_file 38 = .ok (.invokespecial 59, 3) := by decide +kernel
theorem dX7_file_41 : decode cX7_file 41 = .ok (.athrow, 1) := by decide +kernel
theorem dX7_file_42 : decode cX7_file 42 = .ok (.aload_n 0, 1) := by decide +kernel
theorem dX7_file_43 : decode cX7_file 43 = .ok (.getfield 45, 3) := by decide +kernel
theorem dX7_file_46 : decode cX7_file 46 = .ok (.aload_n 0, 1) := by decide +kernel
theorem dX7_file_47 : decode cX7_file 47 = .ok (.getfield 28, 3) := by decide +kernel
theorem dX7_file_50 : decode cX7_file 50 = .ok (.aload_n 0, 1) := by decide +kernel
theorem dX7_file_51 : decode cX7_file 51 = .ok (.getfield 32, 3) := by decide +kernel
theorem dX7_file_54 : decode cX7_file 54 = .ok (.aload_n 0, 1) := by decide +kernel
theorem dX7_file_55 : decode cX7_file 55 = .ok (.aload_n 2, 1) := by decide +kernel
theorem dX7_file_56 : decode cX7_file 56 = .ok (.invokevirtual 86, 3) := by decide +kernel
theorem dX7_file_59 : decode cX7_file 59 = .ok (.invokevirtual 90, 3) := by decide +kernel
theorem dX7_file_62 : decode cX7_file 62 = .ok (.istore_n 3, 1) := by decide +kernel
theorem dX7_file_63 : decode cX7_file 63 = .ok (.aload_n 0, 1) := by decide +kernel
theorem dX7_file_64 : decode cX7_file 64 = .ok (.iconst 0, 1) := by decide +kernel
theorem dX7_file_65 : decode cX7_file 65 = .ok (.putfield 32, 3) := by decide +kernel
theorem dX7_file_68 : decode cX7_file 68 = .ok (.aload_n 0, 1) := by decide +kernel
theorem dX7_file_69 : decode cX7_file 69 = .ok (.aload_n 0, 1) := by decide +kernel
theorem dX7_file_70 : decode cX7_file 70 = .ok (.getfield 45, 3) := by decide +kernel
theorem dX7_file_73 : decode cX7_file 73 = .ok (.getfield 94, 3) := by decide +kernel
theorem dX7_file_76 : decode cX7_file 76 = .ok (.putfield 49, 3) := by decide +kernel
theorem dX7_file_79 : decode cX7_file 79 = .ok (.iload_n 3, 1) := by decide +kernel
theorem dX7_file_80 : decode cX7_file 80 = .ok (.ifCond .eq 6, 3) := by decide +kernel
theorem dX7_file_83 : decode cX7_file 83 = .ok (.iload_n 3, 1) := by decide +kernel
theorem dX7_file_84 : decode cX7_file 84 = .ok (.ineg, 1) := by decide +kernel
theorem dX7_file_85 : decode cX7_file 85 = .ok (.ireturn, 1) := by decide +kernel
theorem dX7_file_86 : decode cX7_file 86 = .ok (.aload_n 0, 1) := by decide +kernel
theorem dX7_file_87 : decode cX7_file 87 = .ok (.getfield 19, 3) := by decide +kernel
theorem dX7_file_90 : decode cX7_file 90 = .ok (.new 95, 3) := by decide +kernel
theorem dX7_file_93 : decode cX7_file 93 = .ok (.dup, 1) := by decide +kernel
theorem dX7_file_94 : decode cX7_file 94 = .ok (.aload_n 2, 1) := by decide +kernel
theorem dX7_file_95 : decode cX7_file 95 = .ok (.aload_n 0, 1) := by decide +kernel
theorem dX7_file_96 : decode cX7_file 96 = .ok (.getfield 45, 3) := by decide +kernel
theorem dX7_file_99 : decode cX7_file 99 = .ok (.invokespecial 97, 3) := by decide +kernel
theorem dX7_file_102 : decode cX7_file 102 = .ok (.invokevirtual 100, 3) := by decide +kernel
theorem dX7_file_105 : decode cX7_file 105 = .ok (.pop, 1) := by decide +kernel
theorem dX7_file_106 : decode cX7_file 106 = .ok (.aload_n 0, 1) := by decide +kernel
theorem dX7_file_107 : decode cX7_file 107 = .ok (.getfield 19, 3) := by decide +kernel
theorem dX7_file_110 : decode cX7_file 110 = .ok (.invokevirtual 80, 3) := by decide +kernel
theorem dX7_file_113 : decode cX7_file 113 = .ok (.iconst 1, 1) := by decide +kernel
theorem dX7_file_114 : decode cX7_file 114 = .ok (.isub, 1) := by decide +kernel
theorem dX7_file_115 : decode cX7_file 115 = .ok (.ireturn, 1) := by decide +kernel
theorem dX7_errorAt_0 : decode cX7_errorAt 0 = .ok (.aload_n 0, 1) := by decide +kernel
theorem dX7_errorAt_1 : decode cX7_errorAt 1 = .ok (.getfield 49, 3) := by decide +kernel
theorem dX7_errorAt_4 : decode cX7_errorAt 4 = .ok (.ireturn, 1) := by decide +kernel
theorem dX7_veil_0 : decode cX7_veil 0 = .ok (.aload_n 0, 1) := by decide +kernel
theorem dX7_veil_1 : decode cX7_veil 1 = .ok (.iload_n 1, 1) := by decide +kernel
theorem dX7_veil_2 : decode cX7_veil 2 = .ok (.invokevirtual 104, 3) := by decide +kernel
theorem dX7_veil_5 : decode cX7_veil 5 = .ok (.astore 5, 2) := by decide +kernel
theorem dX7_veil_7 : decode cX7_veil 7 = .ok (.aload 5, 2) := by decide +kernel
theorem dX7_veil_9 : decode cX7_veil 9 = .ok (.ifnonnull 13, 3) := by decide +kernel
theorem dX7_veil_12 : decode cX7_veil 12 = .ok (.new 75, 3) := by decide +kernel
theorem dX7_veil_15 : decode cX7_veil 15 = .ok (.dup, 1) := by decide +kernel
theorem dX7_veil_16 : decode cX7_veil 16 = .ok (.ldc 108, 2) := by decide +kernel
theorem dX7_veil_18 : decode cX7_veil 18 = .ok (.invokespecial 79, 3) := by decide +kernel
theorem dX7_veil_21 : decode cX7_veil 21 = .ok (.athrow, 1) := by decide +kernel
theorem dX7_veil_22 : decode cX7_veil 22 = .ok (.aload 5, 2) := by decide +kernel
theorem dX7_veil_24 : decode cX7_veil 24 = .ok (.iload_n 2, 1) := by decide +kernel
theorem dX7_veil_25 : decode cX7_veil 25 = .ok (.iload_n 3, 1) := by decide +kernel
theorem dX7_veil_26 : decode cX7_veil 26 = .ok (.invokevirtual 110, 3) := by decide +kernel
theorem dX7_veil_29 : decode cX7_veil 29 = .ok (.ifCond .eq 11, 3) := by decide +kernel
theorem dX7_veil_32 : decode cX7_veil 32 = .ok (.iload 4, 2) := by decide +kernel
theorem dX7_veil_34 : decode cX7_veil 34 = .ok (.invokestatic 114, 3) := by decide +kernel
theorem dX7_veil_37 : decode cX7_veil 37 = .ok (.ifCond .ne 13, 3) := by decide +kernel
theorem dX7_veil_40 : decode cX7_veil 40 = .ok (.new 66, 3) := by decide +kernel
theorem dX7_veil_43 : decode cX7_veil 43 = .ok (.dup, 1) := by decide +kernel
theorem dX7_veil_44 : decode cX7_veil 44 = .ok (.ldc 118, 2) := by decide +kernel
theorem dX7_veil_46 : decode cX7_veil 46 = .ok (.invokespecial 70, 3) := by decide +kernel
theorem dX7_veil_49 : decode cX7_veil 49 = .ok (.athrow, 1) := by decide +kernel
theorem dX7_veil_50 : decode cX7_veil 50 = .ok (.aload 5, 2) := by decide +kernel
theorem dX7_veil_52 : decode cX7_veil 52 = .ok (.iload_n 2, 1) := by decide +kernel
theorem dX7_veil_53 : decode cX7_veil 53 = .ok (.iload_n 3, 1) := by decide +kernel
theorem dX7_veil_54 : decode cX7_veil 54 = .ok (.iload 4, 2) := by decide +kernel
theorem dX7_veil_56 : decode cX7_veil 56 = .ok (.invokevirtual 120, 3) := by decide +kernel
theorem dX7_veil_59 : decode cX7_veil 59 = .ok (.ireturn, 1) := by decide +kernel
theorem dX7_document_0 : decode cX7_document 0 = .ok (.aload_n 0, 1) := by decide +kernel
theorem dX7_document_1 : decode cX7_document 1 = .ok (.iload_n 1, 1) := by decide +kernel
theorem dX7_document_2 : decode cX7_document 2 = .ok (.invokevirtual 104, 3) := by decide +kernel
theorem dX7_document_5 : decode cX7_document 5 = .ok (.astore_n 3, 1) := by decide +kernel
theorem dX7_document_6 : decode cX7_document 6 = .ok (.aload_n 3, 1) := by decide +kernel
theorem dX7_document_7 : decode cX7_document 7 = .ok (.ifnull 13, 3) := by decide +kernel
theorem dX7_document_10 : decode cX7_document 10 = .ok (.iload_n 2, 1) := by decide +kernel
theorem dX7_document_11 : decode cX7_document 11 = .ok (.ifCond .lt 9, 3) := by decide +kernel
theorem dX7_document_14 : decode cX7_document 14 = .ok (.iload_n 2, 1) := by decide +kernel
theorem dX7_document_15 : decode cX7_document 15 = .ok (.bipush 7, 2) := by decide +kernel
theorem dX7_document_17 : decode cX7_document 17 = .ok (.if_icmp .le 13, 3) := by decide +kernel
theorem dX7_document_20 : decode cX7_document 20 = .ok (.new 75, 3) := by decide +kernel
theorem dX7_document_23 : decode cX7_document 23 = .ok (.dup, 1) := by decide +kernel
theorem dX7_document_24 : decode cX7_document 24 = .ok (.ldc 124, 2) := by decide +kernel
theorem dX7_document_26 : decode cX7_document 26 = .ok (.invokespecial 79, 3) := by decide +kernel
theorem dX7_document_29 : decode cX7_document 29 = .ok (.athrow, 1) := by decide +kernel
theorem dX7_document_30 : decode cX7_document 30 = .ok (.aload_n 3, 1) := by decide +kernel
theorem dX7_document_31 : decode cX7_document 31 = .ok (.iload_n 2, 1) := by decide +kernel
theorem dX7_document_32 : decode cX7_document 32 = .ok (.invokestatic 126, 3) := by decide +kernel
theorem dX7_document_35 : decode cX7_document 35 = .ok (.ireturn, 1) := by decide +kernel
theorem dX7_open_0 : decode cX7_open 0 = .ok (.iload_n 1, 1) := by decide +kernel
theorem dX7_open_1 : decode cX7_open 1 = .ok (.invokestatic 114, 3) := by decide +kernel
theorem dX7_open_4 : decode cX7_open 4 = .ok (.ifCond .ne 13, 3) := by decide +kernel
theorem dX7_open_7 : decode cX7_open 7 = .ok (.new 66, 3) := by decide +kernel
theorem dX7_open_10 : decode cX7_open 10 = .ok (.dup, 1) := by decide +kernel
theorem dX7_open_11 : decode cX7_open 11 = .ok (.ldc 130, 2) := by decide +kernel
theorem dX7_open_13 : decode cX7_open 13 = .ok (.invokespecial 70, 3) := by decide +kernel
theorem dX7_open_16 : decode cX7_open 16 = .ok (.athrow, 1) := by decide +kernel
theorem dX7_open_17 : decode cX7_open 17 = .ok (.aload_n 0, 1) := by decide +kernel
theorem dX7_open_18 : decode cX7_open 18 = .ok (.getfield 12, 3) := by decide +kernel
theorem dX7_open_21 : decode cX7_open 21 = .ok (.invokevirtual 80, 3) := by decide +kernel
theorem dX7_open_24 : decode cX7_open 24 = .ok (.bipush 8, 2) := by decide +kernel
theorem dX7_open_26 : decode cX7_open 26 = .ok (.if_icmp .lt 13, 3) := by decide +kernel
theorem dX7_open_29 : decode cX7_open 29 = .ok (.new 55, 3) := by decide +kernel
theorem dX7_open_32 : decode cX7_open 32 = .ok (.dup, 1) := by decide +kernel
theorem dX7_open_33 : decode cX7_open 33 = .ok (.ldc 132, 2) := by decide +kernel
theorem dX7_open_35 : decode cX7_open 35 = .ok (.invokespecial 59, 3) := by decide +kernel
theorem dX7_open_38 : decode cX7_open 38 = .ok (.athrow, 1) := by decide +kernel
theorem dX7_open_39 : decode cX7_open 39 = .ok (.aload_n 0, 1) := by decide +kernel
theorem dX7_open_40 : decode cX7_open 40 = .ok (.getfield 12, 3) := by decide +kernel
theorem dX7_open_43 : decode cX7_open 43 = .ok (.new 134, 3) := by decide +kernel
theorem dX7_open_46 : decode cX7_open 46 = .ok (.dup, 1) := by decide +kernel
theorem dX7_open_47 : decode cX7_open 47 = .ok (.aload_n 0, 1) := by decide +kernel
theorem dX7_open_48 : decode cX7_open 48 = .ok (.getfield 12, 3) := by decide +kernel
theorem dX7_open_51 : decode cX7_open 51 = .ok (.invokevirtual 80, 3) := by decide +kernel
theorem dX7_open_54 : decode cX7_open 54 = .ok (.iload_n 1, 1) := by decide +kernel
theorem dX7_open_55 : decode cX7_open 55 = .ok (.invokespecial 136, 3) := by decide +kernel
theorem dX7_open_58 : decode cX7_open 58 = .ok (.invokevirtual 100, 3) := by decide +kernel
theorem dX7_open_61 : decode cX7_open 61 = .ok (.pop, 1) := by decide +kernel
theorem dX7_open_62 : decode cX7_open 62 = .ok (.aload_n 0, 1) := by decide +kernel
theorem dX7_open_63 : decode cX7_open 63 = .ok (.getfield 12, 3) := by decide +kernel
theorem dX7_open_66 : decode cX7_open 66 = .ok (.invokevirtual 80, 3) := by decide +kernel
theorem dX7_open_69 : decode cX7_open 69 = .ok (.iconst 1, 1) := by decide +kernel
theorem dX7_open_70 : decode cX7_open 70 = .ok (.isub, 1) := by decide +kernel
theorem dX7_open_71 : decode cX7_open 71 = .ok (.ireturn, 1) := by decide +kernel
theorem dX7_seal_0 : decode cX7_seal 0 = .ok (.aload_n 0, 1) := by decide +kernel
theorem dX7_seal_1 : decode cX7_seal 1 = .ok (.iload_n 1, 1) := by decide +kernel
theorem dX7_seal_2 : decode cX7_seal 2 = .ok (.invokevirtual 71, 3) := by decide +kernel
theorem dX7_seal_5 : decode cX7_seal 5 = .ok (.astore_n 3, 1) := by decide +kernel
theorem dX7_seal_6 : decode cX7_seal 6 = .ok (.aload_n 3, 1) := by decide +kernel
theorem dX7_seal_7 : decode cX7_seal 7 = .ok (.ifnonnull 13, 3) := by decide +kernel
theorem dX7_seal_10 : decode cX7_seal 10 = .ok (.new 75, 3) := by decide +kernel
theorem dX7_seal_13 : decode cX7_seal 13 = .ok (.dup, 1) := by decide +kernel
theorem dX7_seal_14 : decode cX7_seal 14 = .ok (.ldc 77, 2) := by decide +kernel
theorem dX7_seal_16 : decode cX7_seal 16 = .ok (.invokespecial 79, 3) := by decide +kernel
theorem dX7_seal_19 : decode cX7_seal 19 = .ok (.athrow, 1) := by decide +kernel
theorem dX7_seal_20 : decode cX7_seal 20 = .ok (.iload_n 2, 1) := by decide +kernel
theorem dX7_seal_21 : decode cX7_seal 21 = .ok (.invokestatic 114, 3) := by decide +kernel
theorem dX7_seal_24 : decode cX7_seal 24 = .ok (.ifCond .ne 13, 3) := by decide +kernel
theorem dX7_seal_27 : decode cX7_seal 27 = .ok (.new 66, 3) := by decide +kernel
theorem dX7_seal_30 : decode cX7_seal 30 = .ok (.dup, 1) := by decide +kernel
theorem dX7_seal_31 : decode cX7_seal 31 = .ok (.ldc 130, 2) := by decide +kernel
theorem dX7_seal_33 : decode cX7_seal 33 = .ok (.invokespecial 70, 3) := by decide +kernel
theorem dX7_seal_36 : decode cX7_seal 36 = .ok (.athrow, 1) := by decide +kernel
theorem dX7_seal_37 : decode cX7_seal 37 = .ok (.aload_n 3, 1) := by decide +kernel
theorem dX7_seal_38 : decode cX7_seal 38 = .ok (.getfield 139, 3) := by decide +kernel
theorem dX7_seal_41 : decode cX7_seal 41 = .ok (.istore 4, 2) := by decide +kernel
theorem dX7_seal_43 : decode cX7_seal 43 = .ok (.aload_n 3, 1) := by decide +kernel
theorem dX7_seal_44 : decode cX7_seal 44 = .ok (.iload_n 2, 1) := by decide +kernel
theorem dX7_seal_45 : decode cX7_seal 45 = .ok (.putfield 139, 3) := by decide +kernel
theorem dX7_seal_48 : decode cX7_seal 48 = .ok (.iload 4, 2) := by decide +kernel
theorem dX7_seal_50 : decode cX7_seal 50 = .ok (.ireturn, 1) := by decide +kernel
theorem dX7_addPerson_0 : decode cX7_addPerson 0 = .ok (.iload_n 1, 1) := by decide +kernel
theorem dX7_addPerson_1 : decode cX7_addPerson 1 = .ok (.ifCond .lt 15, 3) := by decide +kernel
theorem dX7_addPerson_4 : decode cX7_addPerson 4 = .ok (.iload_n 1, 1) := by decide +kernel
theorem dX7_addPerson_5 : decode cX7_addPerson 5 = .ok (.iconst 3, 1) := by decide +kernel
theorem dX7_addPerson_6 : decode cX7_addPerson 6 = .ok (.if_icmp .gt 10, 3) := by decide +kernel
theorem dX7_addPerson_9 : decode cX7_addPerson 9 = .ok (.iload_n 2, 1) := by decide +kernel
theorem dX7_addPerson_10 : decode cX7_addPerson 10 = .ok (.invokestatic 114, 3) := by decide +kernel
theorem dX7_addPerson_13 : decode cX7_addPerson 13 = .ok (.ifCond .ne 13, 3) := by decide +kernel
theorem dX7_addPerson_16 : decode cX7_addPerson 16 = .ok (.new 66, 3) := by decide +kernel
theorem dX7_addPerson_19 : decode cX7_addPerson 19 = .ok (.dup, 1) := by decide +kernel
theorem dX7_addPerson_20 : decode cX7_addPerson 20 = .ok (.ldc 142, 2) := by decide +kernel
theorem dX7_addPerson_22 : decode cX7_addPerson 22 = .ok (.invokespecial 70, 3) := by decide +kernel
theorem dX7_addPerson_25 : decode cX7_addPerson 25 = .ok (.athrow, 1) := by decide +kernel
theorem dX7_addPerson_26 : decode cX7_addPerson 26 = .ok (.aload_n 0, 1) := by decide +kernel
theorem dX7_addPerson_27 : decode cX7_addPerson 27 = .ok (.getfield 16, 3) := by decide +kernel
theorem dX7_addPerson_30 : decode cX7_addPerson 30 = .ok (.invokevirtual 80, 3) := by decide +kernel
theorem dX7_addPerson_33 : decode cX7_addPerson 33 = .ok (.bipush 12, 2) := by decide +kernel
theorem dX7_addPerson_35 : decode cX7_addPerson 35 = .ok (.if_icmp .lt 13, 3) := by decide +kernel
theorem dX7_addPerson_38 : decode cX7_addPerson 38 = .ok (.new 55, 3) := by decide +kernel
theorem dX7_addPerson_41 : decode cX7_addPerson 41 = .ok (.dup, 1) := by decide +kernel
theorem dX7_addPerson_42 : decode cX7_addPerson 42 = .ok (.ldc 144, 2) := by decide +kernel
theorem dX7_addPerson_44 : decode cX7_addPerson 44 = .ok (.invokespecial 59, 3) := by decide +kernel
theorem dX7_addPerson_47 : decode cX7_addPerson 47 = .ok (.athrow, 1) := by decide +kernel
theorem dX7_addPerson_48 : decode cX7_addPerson 48 = .ok (.aload_n 0, 1) := by decide +kernel
theorem dX7_addPerson_49 : decode cX7_addPerson 49 = .ok (.getfield 16, 3) := by decide +kernel
theorem dX7_addPerson_52 : decode cX7_addPerson 52 = .ok (.new 146, 3) := by decide +kernel
theorem dX7_addPerson_55 : decode cX7_addPerson 55 = .ok (.dup, 1) := by decide +kernel
theorem dX7_addPerson_56 : decode cX7_addPerson 56 = .ok (.aload_n 0, 1) := by decide +kernel
theorem dX7_addPerson_57 : decode cX7_addPerson 57 = .ok (.getfield 16, 3) := by decide +kernel
theorem dX7_addPerson_60 : decode cX7_addPerson 60 = .ok (.invokevirtual 80, 3) := by decide +kernel
theorem dX7_addPerson_63 : decode cX7_addPerson 63 = .ok (.iload_n 1, 1) := by decide +kernel
theorem dX7_addPerson_64 : decode cX7_addPerson 64 = .ok (.iload_n 2, 1) := by decide +kernel
theorem dX7_addPerson_65 : decode cX7_addPerson 65 = .ok (.invokespecial 148, 3) := by decide +kernel
theorem dX7_addPerson_68 : decode cX7_addPerson 68 = .ok (.invokevirtual 100, 3) := by decide +kernel
theorem dX7_addPerson_71 : decode cX7_addPerson 71 = .ok (.pop, 1) := by decide +kernel
theorem dX7_addPerson_72 : decode cX7_addPerson 72 = .ok (.aload_n 0, 1) := by decide +kernel
theorem dX7_addPerson_73 : decode cX7_addPerson 73 = .ok (.getfield 16, 3) := by decide +kernel
theorem dX7_addPerson_76 : decode cX7_addPerson 76 = .ok (.invokevirtual 80, 3) := by decide +kernel
theorem dX7_addPerson_79 : decode cX7_addPerson 79 = .ok (.iconst 1, 1) := by decide +kernel
theorem dX7_addPerson_80 : decode cX7_addPerson 80 = .ok (.isub, 1) := by decide +kernel
theorem dX7_addPerson_81 : decode cX7_addPerson 81 = .ok (.ireturn, 1) := by decide +kernel
theorem dX7_attach_0 : decode cX7_attach 0 = .ok (.aload_n 0, 1) := by decide +kernel
theorem dX7_attach_1 : decode cX7_attach 1 = .ok (.iload_n 1, 1) := by decide +kernel
theorem dX7_attach_2 : decode cX7_attach 2 = .ok (.invokevirtual 151, 3) := by decide +kernel
theorem dX7_attach_5 : decode cX7_attach 5 = .ok (.astore_n 3, 1) := by decide +kernel
theorem dX7_attach_6 : decode cX7_attach 6 = .ok (.aload_n 0, 1) := by decide +kernel
theorem dX7_attach_7 : decode cX7_attach 7 = .ok (.iload_n 2, 1) := by decide +kernel
theorem dX7_attach_8 : decode cX7_attach 8 = .ok (.invokevirtual 71, 3) := by decide +kernel
theorem dX7_attach_11 : decode cX7_attach 11 = .ok (.astore 4, 2) := by decide +kernel
theorem dX7_attach_13 : decode cX7_attach 13 = .ok (.aload_n 3, 1) := by decide +kernel
theorem dX7_attach_14 : decode cX7_attach 14 = .ok (.ifnull 8, 3) := by decide +kernel
theorem dX7_attach_17 : decode cX7_attach 17 = .ok (.aload 4, 2) := by decide +kernel
theorem dX7_attach_19 : decode cX7_attach 19 = .ok (.ifnonnull 13, 3) := by decide +kernel
theorem dX7_attach_22 : decode cX7_attach 22 = .ok (.new 75, 3) := by decide +kernel
theorem dX7_attach_25 : decode cX7_attach 25 = .ok (.dup, 1) := by decide +kernel
theorem dX7_attach_26 : decode cX7_attach 26 = .ok (.ldc 155, 2) := by decide +kernel
theorem dX7_attach_28 : decode cX7_attach 28 = .ok (.invokespecial 79, 3) := by decide +kernel
theorem dX7_attach_31 : decode cX7_attach 31 = .ok (.athrow, 1) := by decide +kernel
theorem dX7_attach_32 : decode cX7_attach 32 = .ok (.aload_n 3, 1) := by decide +kernel
theorem dX7_attach_33 : decode cX7_attach 33 = .ok (.dup, 1) := by decide +kernel
theorem dX7_attach_34 : decode cX7_attach 34 = .ok (.getfield 157, 3) := by decide +kernel
theorem dX7_attach_37 : decode cX7_attach 37 = .ok (.iconst 1, 1) := by decide +kernel
theorem dX7_attach_38 : decode cX7_attach 38 = .ok (.aload 4, 2) := by decide +kernel
theorem dX7_attach_40 : decode cX7_attach 40 = .ok (.getfield 160, 3) := by decide +kernel
theorem dX7_attach_43 : decode cX7_attach 43 = .ok (.ishl, 1) := by decide +kernel
theorem dX7_attach_44 : decode cX7_attach 44 = .ok (.ixor, 1) := by decide +kernel
theorem dX7_attach_45 : decode cX7_attach 45 = .ok (.putfield 157, 3) := by decide +kernel
theorem dX7_attach_48 : decode cX7_attach 48 = .ok (.aload_n 3, 1) := by decide +kernel
theorem dX7_attach_49 : decode cX7_attach 49 = .ok (.aload 4, 2) := by decide +kernel
theorem dX7_attach_51 : decode cX7_attach 51 = .ok (.invokevirtual 163, 3) := by decide +kernel
theorem dX7_attach_54 : decode cX7_attach 54 = .ok (.ireturn, 1) := by decide +kernel
theorem dX7_person_0 : decode cX7_person 0 = .ok (.aload_n 0, 1) := by decide +kernel
theorem dX7_person_1 : decode cX7_person 1 = .ok (.iload_n 1, 1) := by decide +kernel
theorem dX7_person_2 : decode cX7_person 2 = .ok (.invokevirtual 151, 3) := by decide +kernel
theorem dX7_person_5 : decode cX7_person 5 = .ok (.astore_n 3, 1) := by decide +kernel
theorem dX7_person_6 : decode cX7_person 6 = .ok (.aload_n 3, 1) := by decide +kernel
theorem dX7_person_7 : decode cX7_person 7 = .ok (.ifnull 13, 3) := by decide +kernel
theorem dX7_person_10 : decode cX7_person 10 = .ok (.iload_n 2, 1) := by decide +kernel
theorem dX7_person_11 : decode cX7_person 11 = .ok (.ifCond .lt 9, 3) := by decide +kernel
theorem dX7_person_14 : decode cX7_person 14 = .ok (.iload_n 2, 1) := by decide +kernel
theorem dX7_person_15 : decode cX7_person 15 = .ok (.bipush 7, 2) := by decide +kernel
theorem dX7_person_17 : decode cX7_person 17 = .ok (.if_icmp .le 13, 3) := by decide +kernel
theorem dX7_person_20 : decode cX7_person 20 = .ok (.new 75, 3) := by decide +kernel
theorem dX7_person_23 : decode cX7_person 23 = .ok (.dup, 1) := by decide +kernel
theorem dX7_person_24 : decode cX7_person 24 = .ok (.ldc 167, 2) := by decide +kernel
theorem dX7_person_26 : decode cX7_person 26 = .ok (.invokespecial 79, 3) := by decide +kernel
theorem dX7_person_29 : decode cX7_person 29 = .ok (.athrow, 1) := by decide +kernel
theorem dX7_person_30 : decode cX7_person 30 = .ok (.aload_n 0, 1) := by decide +kernel
theorem dX7_person_31 : decode cX7_person 31 = .ok (.aload_n 3, 1) := by decide +kernel
theorem dX7_person_32 : decode cX7_person 32 = .ok (.iload_n 2, 1) := by decide +kernel
theorem dX7_person_33 : decode cX7_person 33 = .ok (.invokevirtual 169, 3) := by decide +kernel
theorem dX7_person_36 : decode cX7_person 36 = .ok (.ireturn, 1) := by decide +kernel
theorem dX7_caseOf_0 : decode cX7_caseOf 0 = .ok (.aload_n 0, 1) := by decide +kernel
theorem dX7_caseOf_1 : decode cX7_caseOf 1 = .ok (.iload_n 1, 1) := by decide +kernel
theorem dX7_caseOf_2 : decode cX7_caseOf 2 = .ok (.invokevirtual 71, 3) := by decide +kernel
theorem dX7_caseOf_5 : decode cX7_caseOf 5 = .ok (.astore_n 3, 1) := by decide +kernel
theorem dX7_caseOf_6 : decode cX7_caseOf 6 = .ok (.aload_n 3, 1) := by decide +kernel
theorem dX7_caseOf_7 : decode cX7_caseOf 7 = .ok (.ifnull 12, 3) := by decide +kernel
theorem dX7_caseOf_10 : decode cX7_caseOf 10 = .ok (.iload_n 2, 1) := by decide +kernel
theorem dX7_caseOf_11 : decode cX7_caseOf 11 = .ok (.ifCond .lt 8, 3) := by decide +kernel
theorem dX7_caseOf_14 : decode cX7_caseOf 14 = .ok (.iload_n 2, 1) := by decide +kernel
theorem dX7_caseOf_15 : decode cX7_caseOf 15 = .ok (.iconst 4, 1) := by decide +kernel
theorem dX7_caseOf_16 : decode cX7_caseOf 16 = .ok (.if_icmp .le 13, 3) := by decide +kernel
theorem dX7_caseOf_19 : decode cX7_caseOf 19 = .ok (.new 75, 3) := by decide +kernel
theorem dX7_caseOf_22 : decode cX7_caseOf 22 = .ok (.dup, 1) := by decide +kernel
theorem dX7_caseOf_23 : decode cX7_caseOf 23 = .ok (.ldc 173, 2) := by decide +kernel
theorem dX7_caseOf_25 : decode cX7_caseOf 25 = .ok (.invokespecial 79, 3) := by decide +kernel
theorem dX7_caseOf_28 : decode cX7_caseOf 28 = .ok (.athrow, 1) := by decide +kernel
theorem dX7_caseOf_29 : decode cX7_caseOf 29 = .ok (.aload_n 0, 1) := by decide +kernel
theorem dX7_caseOf_30 : decode cX7_caseOf 30 = .ok (.aload_n 3, 1) := by decide +kernel
theorem dX7_caseOf_31 : decode cX7_caseOf 31 = .ok (.iload_n 2, 1) := by decide +kernel
theorem dX7_caseOf_32 : decode cX7_caseOf 32 = .ok (.invokevirtual 175, 3) := by decide +kernel
theorem dX7_caseOf_35 : decode cX7_caseOf 35 = .ok (.ireturn, 1) := by decide +kernel
theorem dX7_read_0 : decode cX7_read 0 = .ok (.aload_n 0, 1) := by decide +kernel
theorem dX7_read_1 : decode cX7_read 1 = .ok (.iload_n 1, 1) := by decide +kernel
theorem dX7_read_2 : decode cX7_read 2 = .ok (.invokevirtual 151, 3) := by decide +kernel
theorem dX7_read_5 : decode cX7_read 5 = .ok (.astore_n 3, 1) := by decide +kernel
theorem dX7_read_6 : decode cX7_read 6 = .ok (.aload_n 0, 1) := by decide +kernel
theorem dX7_read_7 : decode cX7_read 7 = .ok (.iload_n 2, 1) := by decide +kernel
theorem dX7_read_8 : decode cX7_read 8 = .ok (.invokevirtual 104, 3) := by decide +kernel
theorem dX7_read_11 : decode cX7_read 11 = .ok (.astore 4, 2) := by decide +kernel
theorem dX7_read_13 : decode cX7_read 13 = .ok (.aload_n 3, 1) := by decide +kernel
theorem dX7_read_14 : decode cX7_read 14 = .ok (.ifnull 8, 3) := by decide +kernel
theorem dX7_read_17 : decode cX7_read 17 = .ok (.aload 4, 2) := by decide +kernel
theorem dX7_read_19 : decode cX7_read 19 = .ok (.ifnonnull 13, 3) := by decide +kernel
theorem dX7_read_22 : decode cX7_read 22 = .ok (.new 75, 3) := by decide +kernel
theorem dX7_read_25 : decode cX7_read 25 = .ok (.dup, 1) := by decide +kernel
theorem dX7_read_26 : decode cX7_read 26 = .ok (.ldc 179, 2) := by decide +kernel
theorem dX7_read_28 : decode cX7_read 28 = .ok (.invokespecial 79, 3) := by decide +kernel
theorem dX7_read_31 : decode cX7_read 31 = .ok (.athrow, 1) := by decide +kernel
theorem dX7_read_32 : decode cX7_read 32 = .ok (.aload_n 3, 1) := by decide +kernel
theorem dX7_read_33 : decode cX7_read 33 = .ok (.aload 4, 2) := by decide +kernel
theorem dX7_read_35 : decode cX7_read 35 = .ok (.getfield 181, 3) := by decide +kernel
theorem dX7_read_38 : decode cX7_read 38 = .ok (.invokevirtual 185, 3) := by decide +kernel
theorem dX7_read_41 : decode cX7_read 41 = .ok (.istore 5, 2) := by decide +kernel
theorem dX7_read_43 : decode cX7_read 43 = .ok (.iload 5, 2) := by decide +kernel
theorem dX7_read_45 : decode cX7_read 45 = .ok (.iconst (-1), 1) := by decide +kernel
theorem dX7_read_46 : decode cX7_read 46 = .ok (.if_icmp .ne 5, 3) := by decide +kernel
theorem dX7_read_49 : decode cX7_read 49 = .ok (.iconst (-1), 1) := by decide +kernel
theorem dX7_read_50 : decode cX7_read 50 = .ok (.ireturn, 1) := by decide +kernel
theorem dX7_read_51 : decode cX7_read 51 = .ok (.aload_n 0, 1) := by decide +kernel
theorem dX7_read_52 : decode cX7_read 52 = .ok (.aload 4, 2) := by decide +kernel
theorem dX7_read_54 : decode cX7_read 54 = .ok (.iload 5, 2) := by decide +kernel
theorem dX7_read_56 : decode cX7_read 56 = .ok (.invokevirtual 188, 3) := by decide +kernel
theorem dX7_read_59 : decode cX7_read 59 = .ok (.aload 4, 2) := by decide +kernel
theorem dX7_read_61 : decode cX7_read 61 = .ok (.aload_n 3, 1) := by decide +kernel
theorem dX7_read_62 : decode cX7_read 62 = .ok (.invokevirtual 192, 3) := by decide +kernel
theorem dX7_read_65 : decode cX7_read 65 = .ok (.aload_n 0, 1) := by decide +kernel
theorem dX7_read_66 : decode cX7_read 66 = .ok (.getfield 39, 3) := by decide +kernel
theorem dX7_read_69 : decode cX7_read 69 = .ok (.ireturn, 1) := by decide +kernel
theorem dX7_byteAt_0 : decode cX7_byteAt 0 = .ok (.iload_n 1, 1) := by decide +kernel
theorem dX7_byteAt_1 : decode cX7_byteAt 1 = .ok (.ifCond .lt 20, 3) := by decide +kernel
theorem dX7_byteAt_4 : decode cX7_byteAt 4 = .ok (.iload_n 1, 1) := by decide +kernel
theorem dX7_byteAt_5 : decode cX7_byteAt 5 = .ok (.aload_n 0, 1) := by decide +kernel
theorem dX7_byteAt_6 : decode cX7_byteAt 6 = .ok (.getfield 39, 3) := by decide +kernel
theorem dX7_byteAt_9 : decode cX7_byteAt 9 = .ok (.if_icmp .ge 12, 3) := by decide +kernel
theorem dX7_byteAt_12 : decode cX7_byteAt 12 = .ok (.iload_n 1, 1) := by decide +kernel
theorem dX7_byteAt_13 : decode cX7_byteAt 13 = .ok (.aload_n 0, 1) := by decide +kernel
theorem dX7_byteAt_14 : decode cX7_byteAt 14 = .ok (.getfield 36, 3) := by decide +kernel
theorem dX7_byteAt_17 : decode cX7_byteAt 17 = .ok (.arraylength, 1) := by decide +kernel
theorem dX7_byteAt_18 : decode cX7_byteAt 18 = .ok (.if_icmp .lt 13, 3) := by decide +kernel
theorem dX7_byteAt_21 : decode cX7_byteAt 21 = .ok (.new 75, 3) := by decide +kernel
theorem dX7_byteAt_24 : decode cX7_byteAt 24 = .ok (.dup, 1) := by decide +kernel
theorem dX7_byteAt_25 : decode cX7_byteAt 25 = .ok (.ldc 196, 2) := by decide +kernel
theorem dX7_byteAt_27 : decode cX7_byteAt 27 = .ok (.invokespecial 79, 3) := by decide +kernel
theorem dX7_byteAt_30 : decode cX7_byteAt 30 = .ok (.athrow, 1) := by decide +kernel
theorem dX7_byteAt_31 : decode cX7_byteAt 31 = .ok (.aload_n 0, 1) := by decide +kernel
theorem dX7_byteAt_32 : decode cX7_byteAt 32 = .ok (.getfield 36, 3) := by decide +kernel
theorem dX7_byteAt_35 : decode cX7_byteAt 35 = .ok (.iload_n 1, 1) := by decide +kernel
theorem dX7_byteAt_36 : decode cX7_byteAt 36 = .ok (.iaload, 1) := by decide +kernel
theorem dX7_byteAt_37 : decode cX7_byteAt 37 = .ok (.ireturn, 1) := by decide +kernel
theorem dX7_hidden_0 : decode cX7_hidden 0 = .ok (.aload_n 0, 1) := by decide +kernel
theorem dX7_hidden_1 : decode cX7_hidden 1 = .ok (.iload_n 1, 1) := by decide +kernel
theorem dX7_hidden_2 : decode cX7_hidden 2 = .ok (.invokevirtual 151, 3) := by decide +kernel
theorem dX7_hidden_5 : decode cX7_hidden 5 = .ok (.astore_n 3, 1) := by decide +kernel
theorem dX7_hidden_6 : decode cX7_hidden 6 = .ok (.aload_n 0, 1) := by decide +kernel
theorem dX7_hidden_7 : decode cX7_hidden 7 = .ok (.iload_n 2, 1) := by decide +kernel
theorem dX7_hidden_8 : decode cX7_hidden 8 = .ok (.invokevirtual 104, 3) := by decide +kernel
theorem dX7_hidden_11 : decode cX7_hidden 11 = .ok (.astore 4, 2) := by decide +kernel
theorem dX7_hidden_13 : decode cX7_hidden 13 = .ok (.aload_n 3, 1) := by decide +kernel
theorem dX7_hidden_14 : decode cX7_hidden 14 = .ok (.ifnull 8, 3) := by decide +kernel
theorem dX7_hidden_17 : decode cX7_hidden 17 = .ok (.aload 4, 2) := by decide +kernel
theorem dX7_hidden_19 : decode cX7_hidden 19 = .ok (.ifnonnull 13, 3) := by decide +kernel
theorem dX7_hidden_22 : decode cX7_hidden 22 = .ok (.new 75, 3) := by decide +kernel
theorem dX7_hidden_25 : decode cX7_hidden 25 = .ok (.dup, 1) := by decide +kernel
theorem dX7_hidden_26 : decode cX7_hidden 26 = .ok (.ldc 179, 2) := by decide +kernel
theorem dX7_hidden_28 : decode cX7_hidden 28 = .ok (.invokespecial 79, 3) := by decide +kernel
theorem dX7_hidden_31 : decode cX7_hidden 31 = .ok (.athrow, 1) := by decide +kernel
theorem dX7_hidden_32 : decode cX7_hidden 32 = .ok (.aload_n 3, 1) := by decide +kernel
theorem dX7_hidden_33 : decode cX7_hidden 33 = .ok (.aload 4, 2) := by decide +kernel
theorem dX7_hidden_35 : decode cX7_hidden 35 = .ok (.invokestatic 198, 3) := by decide +kernel
theorem dX7_hidden_38 : decode cX7_hidden 38 = .ok (.ireturn, 1) := by decide +kernel
theorem dX7_differs_0 : decode cX7_differs 0 = .ok (.aload_n 0, 1) := by decide +kernel
theorem dX7_differs_1 : decode cX7_differs 1 = .ok (.iload_n 1, 1) := by decide +kernel
theorem dX7_differs_2 : decode cX7_differs 2 = .ok (.invokevirtual 151, 3) := by decide +kernel
theorem dX7_differs_5 : decode cX7_differs 5 = .ok (.astore 4, 2) := by decide +kernel
theorem dX7_differs_7 : decode cX7_differs 7 = .ok (.aload_n 0, 1) := by decide +kernel
theorem dX7_differs_8 : decode cX7_differs 8 = .ok (.iload_n 2, 1) := by decide +kernel
theorem dX7_differs_9 : decode cX7_differs 9 = .ok (.invokevirtual 151, 3) := by decide +kernel
theorem dX7_differs_12 : decode cX7_differs 12 = .ok (.astore 5, 2) := by decide +kernel
theorem dX7_differs_14 : decode cX7_differs 14 = .ok (.aload_n 0, 1) := by decide +kernel
theorem dX7_differs_15 : decode cX7_differs 15 = .ok (.iload_n 3, 1) := by decide +kernel
theorem dX7_differs_16 : decode cX7_differs 16 = .ok (.invokevirtual 104, 3) := by decide +kernel
theorem dX7_differs_19 : decode cX7_differs 19 = .ok (.astore 6, 2) := by decide +kernel
theorem dX7_differs_21 : decode cX7_differs 21 = .ok (.aload 4, 2) := by decide +kernel
theorem dX7_differs_23 : decode cX7_differs 23 = .ok (.ifnull 13, 3) := by decide +kernel
theorem dX7_differs_26 : decode cX7_differs 26 = .ok (.aload 5, 2) := by decide +kernel
theorem dX7_differs_28 : decode cX7_differs 28 = .ok (.ifnull 8, 3) := by decide +kernel
theorem dX7_differs_31 : decode cX7_differs 31 = .ok (.aload 6, 2) := by decide +kernel
theorem dX7_differs_33 : decode cX7_differs 33 = .ok (.ifnonnull 13, 3) := by decide +kernel
theorem dX7_differs_36 : decode cX7_differs 36 = .ok (.new 75, 3) := by decide +kernel
theorem dX7_differs_39 : decode cX7_differs 39 = .ok (.dup, 1) := by decide +kernel
theorem dX7_differs_40 : decode cX7_differs 40 = .ok (.ldc 179, 2) := by decide +kernel
theorem dX7_differs_42 : decode cX7_differs 42 = .ok (.invokespecial 79, 3) := by decide +kernel
theorem dX7_differs_45 : decode cX7_differs 45 = .ok (.athrow, 1) := by decide +kernel
theorem dX7_differs_46 : decode cX7_differs 46 = .ok (.aload 4, 2) := by decide +kernel
theorem dX7_differs_48 : decode cX7_differs 48 = .ok (.aload 6, 2) := by decide +kernel
theorem dX7_differs_50 : decode cX7_differs 50 = .ok (.getfield 181, 3) := by decide +kernel
theorem dX7_differs_53 : decode cX7_differs 53 = .ok (.invokevirtual 185, 3) := by decide +kernel
theorem dX7_differs_56 : decode cX7_differs 56 = .ok (.istore 7, 2) := by decide +kernel
theorem dX7_differs_58 : decode cX7_differs 58 = .ok (.aload 5, 2) := by decide +kernel
theorem dX7_differs_60 : decode cX7_differs 60 = .ok (.aload 6, 2) := by decide +kernel
theorem dX7_differs_62 : decode cX7_differs 62 = .ok (.getfield 181, 3) := by decide +kernel
theorem dX7_differs_65 : decode cX7_differs 65 = .ok (.invokevirtual 185, 3) := by decide +kernel
theorem dX7_differs_68 : decode cX7_differs 68 = .ok (.istore 8, 2) := by decide +kernel
theorem dX7_differs_70 : decode cX7_differs 70 = .ok (.iconst 0, 1) := by decide +kernel
theorem dX7_differs_71 : decode cX7_differs 71 = .ok (.istore 9, 2) := by decide +kernel
theorem dX7_differs_73 : decode cX7_differs 73 = .ok (.iload 9, 2) := by decide +kernel
theorem dX7_differs_75 : decode cX7_differs 75 = .ok (.aload 6, 2) := by decide +kernel
theorem dX7_differs_77 : decode cX7_differs 77 = .ok (.getfield 202, 3) := by decide +kernel
theorem dX7_differs_80 : decode cX7_differs 80 = .ok (.arraylength, 1) := by decide +kernel
theorem dX7_differs_81 : decode cX7_differs 81 = .ok (.if_icmp .ge 33, 3) := by decide +kernel
theorem dX7_differs_84 : decode cX7_differs 84 = .ok (.aload 6, 2) := by decide +kernel
theorem dX7_differs_86 : decode cX7_differs 86 = .ok (.iload 9, 2) := by decide +kernel
theorem dX7_differs_88 : decode cX7_differs 88 = .ok (.iload 7, 2) := by decide +kernel
theorem dX7_differs_90 : decode cX7_differs 90 = .ok (.invokevirtual 206, 3) := by decide +kernel
theorem dX7_differs_93 : decode cX7_differs 93 = .ok (.aload 6, 2) := by decide +kernel
theorem dX7_differs_95 : decode cX7_differs 95 = .ok (.iload 9, 2) := by decide +kernel
theorem dX7_differs_97 : decode cX7_differs 97 = .ok (.iload 8, 2) := by decide +kernel
theorem dX7_differs_99 : decode cX7_differs 99 = .ok (.invokevirtual 206, 3) := by decide +kernel
theorem dX7_differs_102 : decode cX7_differs 102 = .ok (.if_icmp .eq 6, 3) := by decide +kernel
theorem dX7_differs_105 : decode cX7_differs 105 = .ok (.iload 9, 2) := by decide +kernel
theorem dX7_differs_107 : decode cX7_differs 107 = .ok (.ireturn, 1) := by decide +kernel
theorem dX7_differs_108 : decode cX7_differs 108 = .ok (.iinc 9 1, 3) := by decide +kernel
theorem dX7_differs_111 : decode cX7_differs 111 = .ok (.goto (-38), 3) := by decide +kernel
theorem dX7_differs_114 : decode cX7_differs 114 = .ok (.iconst (-1), 1) := by decide +kernel
theorem dX7_differs_115 : decode cX7_differs 115 = .ok (.ireturn, 1) := by decide +kernel
theorem dX7_find_0 : decode cX7_find 0 = .ok (.aload_n 0, 1) := by decide +kernel
theorem dX7_find_1 : decode cX7_find 1 = .ok (.iload_n 1, 1) := by decide +kernel
theorem dX7_find_2 : decode cX7_find 2 = .ok (.invokevirtual 151, 3) := by decide +kernel
theorem dX7_find_5 : decode cX7_find 5 = .ok (.astore_n 3, 1) := by decide +kernel
theorem dX7_find_6 : decode cX7_find 6 = .ok (.aload_n 0, 1) := by decide +kernel
theorem dX7_find_7 : decode cX7_find 7 = .ok (.iload_n 2, 1) := by decide +kernel
theorem dX7_find_8 : decode cX7_find 8 = .ok (.invokevirtual 104, 3) := by decide +kernel
theorem dX7_find_11 : decode cX7_find 11 = .ok (.astore 4, 2) := by decide +kernel
theorem dX7_find_13 : decode cX7_find 13 = .ok (.aload_n 3, 1) := by decide +kernel
theorem dX7_find_14 : decode cX7_find 14 = .ok (.ifnull 8, 3) := by decide +kernel
theorem dX7_find_17 : decode cX7_find 17 = .ok (.aload 4, 2) := by decide +kernel
theorem dX7_find_19 : decode cX7_find 19 = .ok (.ifnonnull 13, 3) := by decide +kernel
theorem dX7_find_22 : decode cX7_find 22 = .ok (.new 75, 3) := by decide +kernel
theorem dX7_find_25 : decode cX7_find 25 = .ok (.dup, 1) := by decide +kernel
theorem dX7_find_26 : decode cX7_find 26 = .ok (.ldc 179, 2) := by decide +kernel
theorem dX7_find_28 : decode cX7_find 28 = .ok (.invokespecial 79, 3) := by decide +kernel
theorem dX7_find_31 : decode cX7_find 31 = .ok (.athrow, 1) := by decide +kernel
theorem dX7_find_32 : decode cX7_find 32 = .ok (.aload_n 3, 1) := by decide +kernel
theorem dX7_find_33 : decode cX7_find 33 = .ok (.aload 4, 2) := by decide +kernel
theorem dX7_find_35 : decode cX7_find 35 = .ok (.getfield 181, 3) := by decide +kernel
theorem dX7_find_38 : decode cX7_find 38 = .ok (.invokevirtual 185, 3) := by decide +kernel
theorem dX7_find_41 : decode cX7_find 41 = .ok (.istore 5, 2) := by decide +kernel
theorem dX7_find_43 : decode cX7_find 43 = .ok (.aload_n 0, 1) := by decide +kernel
theorem dX7_find_44 : decode cX7_find 44 = .ok (.getfield 32, 3) := by decide +kernel
theorem dX7_find_47 : decode cX7_find 47 = .ok (.ifCond .eq 9, 3) := by decide +kernel
theorem dX7_find_50 : decode cX7_find 50 = .ok (.iload 5, 2) := by decide +kernel
theorem dX7_find_52 : decode cX7_find 52 = .ok (.iconst (-1), 1) := by decide +kernel
theorem dX7_find_53 : decode cX7_find 53 = .ok (.if_icmp .ne 5, 3) := by decide +kernel
theorem dX7_find_56 : decode cX7_find 56 = .ok (.iconst (-1), 1) := by decide +kernel
theorem dX7_find_57 : decode cX7_find 57 = .ok (.ireturn, 1) := by decide +kernel
theorem dX7_find_58 : decode cX7_find 58 = .ok (.iconst 0, 1) := by decide +kernel
theorem dX7_find_59 : decode cX7_find 59 = .ok (.istore 6, 2) := by decide +kernel
theorem dX7_find_61 : decode cX7_find 61 = .ok (.iload 6, 2) := by decide +kernel
theorem dX7_find_63 : decode cX7_find 63 = .ok (.aload_n 0, 1) := by decide +kernel
theorem dX7_find_64 : decode cX7_find 64 = .ok (.getfield 32, 3) := by decide +kernel
theorem dX7_find_67 : decode cX7_find 67 = .ok (.iadd, 1) := by decide +kernel
theorem dX7_find_68 : decode cX7_find 68 = .ok (.aload 4, 2) := by decide +kernel
theorem dX7_find_70 : decode cX7_find 70 = .ok (.getfield 202, 3) := by decide +kernel
theorem dX7_find_73 : decode cX7_find 73 = .ok (.arraylength, 1) := by decide +kernel
theorem dX7_find_74 : decode cX7_find 74 = .ok (.if_icmp .gt 25, 3) := by decide +kernel
theorem dX7_find_77 : decode cX7_find 77 = .ok (.aload_n 0, 1) := by decide +kernel
theorem dX7_find_78 : decode cX7_find 78 = .ok (.aload 4, 2) := by decide +kernel
theorem dX7_find_80 : decode cX7_find 80 = .ok (.iload 6, 2) := by decide +kernel
theorem dX7_find_82 : decode cX7_find 82 = .ok (.iload 5, 2) := by decide +kernel
theorem dX7_find_84 : decode cX7_find 84 = .ok (.invokevirtual 210, 3) := by decide +kernel
theorem dX7_find_87 : decode cX7_find 87 = .ok (.ifCond .eq 6, 3) := by decide +kernel
theorem dX7_find_90 : decode cX7_find 90 = .ok (.iload 6, 2) := by decide +kernel
theorem dX7_find_92 : decode cX7_find 92 = .ok (.ireturn, 1) := by decide +kernel
theorem dX7_find_93 : decode cX7_find 93 = .ok (.iinc 6 1, 3) := by decide +kernel
theorem dX7_find_96 : decode cX7_find 96 = .ok (.goto (-35), 3) := by decide +kernel
theorem dX7_find_99 : decode cX7_find 99 = .ok (.iconst (-1), 1) := by decide +kernel
theorem dX7_find_100 : decode cX7_find 100 = .ok (.ireturn, 1) := by decide +kernel
theorem dX7_least_0 : decode cX7_least 0 = .ok (.aload_n 0, 1) := by decide +kernel
theorem dX7_least_1 : decode cX7_least 1 = .ok (.iload_n 1, 1) := by decide +kernel
theorem dX7_least_2 : decode cX7_least 2 = .ok (.invokevirtual 104, 3) := by decide +kernel
theorem dX7_least_5 : decode cX7_least 5 = .ok (.astore 4, 2) := by decide +kernel
theorem dX7_least_7 : decode cX7_least 7 = .ok (.aload 4, 2) := by decide +kernel
theorem dX7_least_9 : decode cX7_least 9 = .ok (.ifnonnull 13, 3) := by decide +kernel
theorem dX7_least_12 : decode cX7_least 12 = .ok (.new 75, 3) := by decide +kernel
theorem dX7_least_15 : decode cX7_least 15 = .ok (.dup, 1) := by decide +kernel
theorem dX7_least_16 : decode cX7_least 16 = .ok (.ldc 108, 2) := by decide +kernel
theorem dX7_least_18 : decode cX7_least 18 = .ok (.invokespecial 79, 3) := by decide +kernel
theorem dX7_least_21 : decode cX7_least 21 = .ok (.athrow, 1) := by decide +kernel
theorem dX7_least_22 : decode cX7_least 22 = .ok (.aload 4, 2) := by decide +kernel
theorem dX7_least_24 : decode cX7_least 24 = .ok (.iload_n 2, 1) := by decide +kernel
theorem dX7_least_25 : decode cX7_least 25 = .ok (.iload_n 3, 1) := by decide +kernel
theorem dX7_least_26 : decode cX7_least 26 = .ok (.invokevirtual 110, 3) := by decide +kernel
theorem dX7_least_29 : decode cX7_least 29 = .ok (.ifCond .ne 13, 3) := by decide +kernel
theorem dX7_least_32 : decode cX7_least 32 = .ok (.new 66, 3) := by decide +kernel
theorem dX7_least_35 : decode cX7_least 35 = .ok (.dup, 1) := by decide +kernel
theorem dX7_least_36 : decode cX7_least 36 = .ok (.ldc 214, 2) := by decide +kernel
theorem dX7_least_38 : decode cX7_least 38 = .ok (.invokespecial 70, 3) := by decide +kernel
theorem dX7_least_41 : decode cX7_least 41 = .ok (.athrow, 1) := by decide +kernel
theorem dX7_least_42 : decode cX7_least 42 = .ok (.aload 4, 2) := by decide +kernel
theorem dX7_least_44 : decode cX7_least 44 = .ok (.getfield 181, 3) := by decide +kernel
theorem dX7_least_47 : decode cX7_least 47 = .ok (.getfield 139, 3) := by decide +kernel
theorem dX7_least_50 : decode cX7_least 50 = .ok (.istore 5, 2) := by decide +kernel
theorem dX7_least_52 : decode cX7_least 52 = .ok (.iload 5, 2) := by decide +kernel
theorem dX7_least_54 : decode cX7_least 54 = .ok (.bipush 9, 2) := by decide +kernel
theorem dX7_least_56 : decode cX7_least 56 = .ok (.if_icmp .ge 24, 3) := by decide +kernel
theorem dX7_least_59 : decode cX7_least 59 = .ok (.aload 4, 2) := by decide +kernel
theorem dX7_least_61 : decode cX7_least 61 = .ok (.iload_n 2, 1) := by decide +kernel
theorem dX7_least_62 : decode cX7_least 62 = .ok (.iload_n 3, 1) := by decide +kernel
theorem dX7_least_63 : decode cX7_least 63 = .ok (.iload 5, 2) := by decide +kernel
theorem dX7_least_65 : decode cX7_least 65 = .ok (.invokevirtual 216, 3) := by decide +kernel
theorem dX7_least_68 : decode cX7_least 68 = .ok (.ifCond .ne 6, 3) := by decide +kernel
theorem dX7_least_71 : decode cX7_least 71 = .ok (.iload 5, 2) := by decide +kernel
theorem dX7_least_73 : decode cX7_least 73 = .ok (.ireturn, 1) := by decide +kernel
theorem dX7_least_74 : decode cX7_least 74 = .ok (.iinc 5 1, 3) := by decide +kernel
theorem dX7_least_77 : decode cX7_least 77 = .ok (.goto (-25), 3) := by decide +kernel
theorem dX7_least_80 : decode cX7_least 80 = .ok (.bipush 9, 2) := by decide +kernel
theorem dX7_least_82 : decode cX7_least 82 = .ok (.ireturn, 1) := by decide +kernel
theorem dX7_lend_0 : decode cX7_lend 0 = .ok (.aload_n 0, 1) := by decide +kernel
theorem dX7_lend_1 : decode cX7_lend 1 = .ok (.iload_n 1, 1) := by decide +kernel
theorem dX7_lend_2 : decode cX7_lend 2 = .ok (.invokevirtual 104, 3) := by decide +kernel
theorem dX7_lend_5 : decode cX7_lend 5 = .ok (.astore 4, 2) := by decide +kernel
theorem dX7_lend_7 : decode cX7_lend 7 = .ok (.aload_n 0, 1) := by decide +kernel
theorem dX7_lend_8 : decode cX7_lend 8 = .ok (.iload_n 2, 1) := by decide +kernel
theorem dX7_lend_9 : decode cX7_lend 9 = .ok (.invokevirtual 151, 3) := by decide +kernel
theorem dX7_lend_12 : decode cX7_lend 12 = .ok (.astore 5, 2) := by decide +kernel
theorem dX7_lend_14 : decode cX7_lend 14 = .ok (.aload 4, 2) := by decide +kernel
theorem dX7_lend_16 : decode cX7_lend 16 = .ok (.ifnull 8, 3) := by decide +kernel
theorem dX7_lend_19 : decode cX7_lend 19 = .ok (.aload 5, 2) := by decide +kernel
theorem dX7_lend_21 : decode cX7_lend 21 = .ok (.ifnonnull 13, 3) := by decide +kernel
theorem dX7_lend_24 : decode cX7_lend 24 = .ok (.new 75, 3) := by decide +kernel
theorem dX7_lend_27 : decode cX7_lend 27 = .ok (.dup, 1) := by decide +kernel
theorem dX7_lend_28 : decode cX7_lend 28 = .ok (.ldc 219, 2) := by decide +kernel
theorem dX7_lend_30 : decode cX7_lend 30 = .ok (.invokespecial 79, 3) := by decide +kernel
theorem dX7_lend_33 : decode cX7_lend 33 = .ok (.athrow, 1) := by decide +kernel
theorem dX7_lend_34 : decode cX7_lend 34 = .ok (.iload_n 3, 1) := by decide +kernel
theorem dX7_lend_35 : decode cX7_lend 35 = .ok (.iconst 1, 1) := by decide +kernel
theorem dX7_lend_36 : decode cX7_lend 36 = .ok (.if_icmp .lt 9, 3) := by decide +kernel
theorem dX7_lend_39 : decode cX7_lend 39 = .ok (.iload_n 3, 1) := by decide +kernel
theorem dX7_lend_40 : decode cX7_lend 40 = .ok (.bipush 60, 2) := by decide +kernel
theorem dX7_lend_42 : decode cX7_lend 42 = .ok (.if_icmp .le 13, 3) := by decide +kernel
theorem dX7_lend_45 : decode cX7_lend 45 = .ok (.new 66, 3) := by decide +kernel
theorem dX7_lend_48 : decode cX7_lend 48 = .ok (.dup, 1) := by decide +kernel
theorem dX7_lend_49 : decode cX7_lend 49 = .ok (.ldc 221, 2) := by decide +kernel
theorem dX7_lend_51 : decode cX7_lend 51 = .ok (.invokespecial 70, 3) := by decide +kernel
theorem dX7_lend_54 : decode cX7_lend 54 = .ok (.athrow, 1) := by decide +kernel
theorem dX7_lend_55 : decode cX7_lend 55 = .ok (.aload 4, 2) := by decide +kernel
theorem dX7_lend_57 : decode cX7_lend 57 = .ok (.getfield 223, 3) := by decide +kernel
theorem dX7_lend_60 : decode cX7_lend 60 = .ok (.ifnonnull 13, 3) := by decide +kernel
theorem dX7_lend_63 : decode cX7_lend 63 = .ok (.aload 5, 2) := by decide +kernel
theorem dX7_lend_65 : decode cX7_lend 65 = .ok (.aload 4, 2) := by decide +kernel
theorem dX7_lend_67 : decode cX7_lend 67 = .ok (.invokestatic 198, 3) := by decide +kernel
theorem dX7_lend_70 : decode cX7_lend 70 = .ok (.ifCond .eq 13, 3) := by decide +kernel
theorem dX7_lend_73 : decode cX7_lend 73 = .ok (.new 55, 3) := by decide +kernel
theorem dX7_lend_76 : decode cX7_lend 76 = .ok (.dup, 1) := by decide +kernel
theorem dX7_lend_77 : decode cX7_lend 77 = .ok (.ldc 227, 2) := by decide +kernel
theorem dX7_lend_79 : decode cX7_lend 79 = .ok (.invokespecial 59, 3) := by decide +kernel
theorem dX7_lend_82 : decode cX7_lend 82 = .ok (.athrow, 1) := by decide +kernel
theorem dX7_lend_83 : decode cX7_lend 83 = .ok (.aload 4, 2) := by decide +kernel
theorem dX7_lend_85 : decode cX7_lend 85 = .ok (.aload 5, 2) := by decide +kernel
theorem dX7_lend_87 : decode cX7_lend 87 = .ok (.putfield 223, 3) := by decide +kernel
theorem dX7_lend_90 : decode cX7_lend 90 = .ok (.aload 4, 2) := by decide +kernel
theorem dX7_lend_92 : decode cX7_lend 92 = .ok (.aload_n 0, 1) := by decide +kernel
theorem dX7_lend_93 : decode cX7_lend 93 = .ok (.getfield 52, 3) := by decide +kernel
theorem dX7_lend_96 : decode cX7_lend 96 = .ok (.iload_n 3, 1) := by decide +kernel
theorem dX7_lend_97 : decode cX7_lend 97 = .ok (.iadd, 1) := by decide +kernel
theorem dX7_lend_98 : decode cX7_lend 98 = .ok (.putfield 229, 3) := by decide +kernel
theorem dX7_lend_101 : decode cX7_lend 101 = .ok (.aload 4, 2) := by decide +kernel
theorem dX7_lend_103 : decode cX7_lend 103 = .ok (.getfield 229, 3) := by decide +kernel
theorem dX7_lend_106 : decode cX7_lend 106 = .ok (.ireturn, 1) := by decide +kernel
theorem dX7_back_0 : decode cX7_back 0 = .ok (.aload_n 0, 1) := by decide +kernel
theorem dX7_back_1 : decode cX7_back 1 = .ok (.iload_n 1, 1) := by decide +kernel
theorem dX7_back_2 : decode cX7_back 2 = .ok (.invokevirtual 104, 3) := by decide +kernel
theorem dX7_back_5 : decode cX7_back 5 = .ok (.astore_n 2, 1) := by decide +kernel
theorem dX7_back_6 : decode cX7_back 6 = .ok (.aload_n 2, 1) := by decide +kernel
theorem dX7_back_7 : decode cX7_back 7 = .ok (.ifnonnull 13, 3) := by decide +kernel
theorem dX7_back_10 : decode cX7_back 10 = .ok (.new 75, 3) := by decide +kernel
theorem dX7_back_13 : decode cX7_back 13 = .ok (.dup, 1) := by decide +kernel
theorem dX7_back_14 : decode cX7_back 14 = .ok (.ldc 108, 2) := by decide +kernel
theorem dX7_back_16 : decode cX7_back 16 = .ok (.invokespecial 79, 3) := by decide +kernel
theorem dX7_back_19 : decode cX7_back 19 = .ok (.athrow, 1) := by decide +kernel
theorem dX7_back_20 : decode cX7_back 20 = .ok (.aload_n 2, 1) := by decide +kernel
theorem dX7_back_21 : decode cX7_back 21 = .ok (.getfield 223, 3) := by decide +kernel
theorem dX7_back_24 : decode cX7_back 24 = .ok (.invokestatic 232, 3) := by decide +kernel
theorem dX7_back_27 : decode cX7_back 27 = .ok (.istore_n 3, 1) := by decide +kernel
theorem dX7_back_28 : decode cX7_back 28 = .ok (.aload_n 2, 1) := by decide +kernel
theorem dX7_back_29 : decode cX7_back 29 = .ok (.invokevirtual 236, 3) := by decide +kernel
theorem dX7_back_32 : decode cX7_back 32 = .ok (.iload_n 3, 1) := by decide +kernel
theorem dX7_back_33 : decode cX7_back 33 = .ok (.ireturn, 1) := by decide +kernel
theorem dX7_takeIn_0 : decode cX7_takeIn 0 = .ok (.aload_n 0, 1) := by decide +kernel
theorem dX7_takeIn_1 : decode cX7_takeIn 1 = .ok (.iload_n 1, 1) := by decide +kernel
theorem dX7_takeIn_2 : decode cX7_takeIn 2 = .ok (.invokevirtual 71, 3) := by decide +kernel
theorem dX7_takeIn_5 : decode cX7_takeIn 5 = .ok (.astore_n 2, 1) := by decide +kernel
theorem dX7_takeIn_6 : decode cX7_takeIn 6 = .ok (.aload_n 2, 1) := by decide +kernel
theorem dX7_takeIn_7 : decode cX7_takeIn 7 = .ok (.ifnonnull 13, 3) := by decide +kernel
theorem dX7_takeIn_10 : decode cX7_takeIn 10 = .ok (.new 75, 3) := by decide +kernel
theorem dX7_takeIn_13 : decode cX7_takeIn 13 = .ok (.dup, 1) := by decide +kernel
theorem dX7_takeIn_14 : decode cX7_takeIn 14 = .ok (.ldc 77, 2) := by decide +kernel
theorem dX7_takeIn_16 : decode cX7_takeIn 16 = .ok (.invokespecial 79, 3) := by decide +kernel
theorem dX7_takeIn_19 : decode cX7_takeIn 19 = .ok (.athrow, 1) := by decide +kernel
theorem dX7_takeIn_20 : decode cX7_takeIn 20 = .ok (.aload_n 0, 1) := by decide +kernel
theorem dX7_takeIn_21 : decode cX7_takeIn 21 = .ok (.getfield 22, 3) := by decide +kernel
theorem dX7_takeIn_24 : decode cX7_takeIn 24 = .ok (.invokevirtual 80, 3) := by decide +kernel
theorem dX7_takeIn_27 : decode cX7_takeIn 27 = .ok (.bipush 20, 2) := by decide +kernel
theorem dX7_takeIn_29 : decode cX7_takeIn 29 = .ok (.if_icmp .lt 13, 3) := by decide +kernel
theorem dX7_takeIn_32 : decode cX7_takeIn 32 = .ok (.new 55, 3) := by decide +kernel
theorem dX7_takeIn_35 : decode cX7_takeIn 35 = .ok (.dup, 1) := by decide +kernel
theorem dX7_takeIn_36 : decode cX7_takeIn 36 = .ok (.ldc 239, 2) := by decide +kernel
theorem dX7_takeIn_38 : decode cX7_takeIn 38 = .ok (.invokespecial 59, 3) := by decide +kernel
theorem dX7_takeIn_41 : decode cX7_takeIn 41 = .ok (.athrow, 1) := by decide +kernel
theorem dX7_takeIn_42 : decode cX7_takeIn 42 = .ok (.aload_n 0, 1) := by decide +kernel
theorem dX7_takeIn_43 : decode cX7_takeIn 43 = .ok (.getfield 22, 3) := by decide +kernel
theorem dX7_takeIn_46 : decode cX7_takeIn 46 = .ok (.new 241, 3) := by decide +kernel
theorem dX7_takeIn_49 : decode cX7_takeIn 49 = .ok (.dup, 1) := by decide +kernel
theorem dX7_takeIn_50 : decode cX7_takeIn 50 = .ok (.aload_n 0, 1) := by decide +kernel
theorem dX7_takeIn_51 : decode cX7_takeIn 51 = .ok (.getfield 22, 3) := by decide +kernel
theorem dX7_takeIn_54 : decode cX7_takeIn 54 = .ok (.invokevirtual 80, 3) := by decide +kernel
theorem dX7_takeIn_57 : decode cX7_takeIn 57 = .ok (.aload_n 2, 1) := by decide +kernel
theorem dX7_takeIn_58 : decode cX7_takeIn 58 = .ok (.invokespecial 243, 3) := by decide +kernel
theorem dX7_takeIn_61 : decode cX7_takeIn 61 = .ok (.invokevirtual 100, 3) := by decide +kernel
theorem dX7_takeIn_64 : decode cX7_takeIn 64 = .ok (.pop, 1) := by decide +kernel
theorem dX7_takeIn_65 : decode cX7_takeIn 65 = .ok (.aload_n 0, 1) := by decide +kernel
theorem dX7_takeIn_66 : decode cX7_takeIn 66 = .ok (.getfield 22, 3) := by decide +kernel
theorem dX7_takeIn_69 : decode cX7_takeIn 69 = .ok (.invokevirtual 80, 3) := by decide +kernel
theorem dX7_takeIn_72 : decode cX7_takeIn 72 = .ok (.iconst 1, 1) := by decide +kernel
theorem dX7_takeIn_73 : decode cX7_takeIn 73 = .ok (.isub, 1) := by decide +kernel
theorem dX7_takeIn_74 : decode cX7_takeIn 74 = .ok (.ireturn, 1) := by decide +kernel
theorem dX7_hand_0 : decode cX7_hand 0 = .ok (.aload_n 0, 1) := by decide +kernel
theorem dX7_hand_1 : decode cX7_hand 1 = .ok (.iload_n 1, 1) := by decide +kernel
theorem dX7_hand_2 : decode cX7_hand 2 = .ok (.invokevirtual 246, 3) := by decide +kernel
theorem dX7_hand_5 : decode cX7_hand 5 = .ok (.astore_n 3, 1) := by decide +kernel
theorem dX7_hand_6 : decode cX7_hand 6 = .ok (.aload_n 0, 1) := by decide +kernel
theorem dX7_hand_7 : decode cX7_hand 7 = .ok (.iload_n 2, 1) := by decide +kernel
theorem dX7_hand_8 : decode cX7_hand 8 = .ok (.invokevirtual 151, 3) := by decide +kernel
theorem dX7_hand_11 : decode cX7_hand 11 = .ok (.astore 4, 2) := by decide +kernel
theorem dX7_hand_13 : decode cX7_hand 13 = .ok (.aload_n 3, 1) := by decide +kernel
theorem dX7_hand_14 : decode cX7_hand 14 = .ok (.ifnull 13, 3) := by decide +kernel
theorem dX7_hand_17 : decode cX7_hand 17 = .ok (.aload 4, 2) := by decide +kernel
theorem dX7_hand_19 : decode cX7_hand 19 = .ok (.ifnonnull 18, 3) := by decide +kernel
theorem dX7_hand_22 : decode cX7_hand 22 = .ok (.iload_n 2, 1) := by decide +kernel
theorem dX7_hand_23 : decode cX7_hand 23 = .ok (.iconst (-1), 1) := by decide +kernel
theorem dX7_hand_24 : decode cX7_hand 24 = .ok (.if_icmp .eq 13, 3) := by decide +kernel
theorem dX7_hand_27 : decode cX7_hand 27 = .ok (.new 75, 3) := by decide +kernel
theorem dX7_hand_30 : decode cX7_hand 30 = .ok (.dup, 1) := by decide +kernel
theorem dX7_hand_31 : decode cX7_hand 31 = .ok (.ldc 250, 2) := by decide +kernel
theorem dX7_hand_33 : decode cX7_hand 33 = .ok (.invokespecial 79, 3) := by decide +kernel
theorem dX7_hand_36 : decode cX7_hand 36 = .ok (.athrow, 1) := by decide +kernel
theorem dX7_hand_37 : decode cX7_hand 37 = .ok (.aload_n 3, 1) := by decide +kernel
theorem dX7_hand_38 : decode cX7_hand 38 = .ok (.getfield 252, 3) := by decide +kernel
theorem dX7_hand_41 : decode cX7_hand 41 = .ok (.ifCond .ne 19, 3) := by decide +kernel
theorem dX7_hand_44 : decode cX7_hand 44 = .ok (.aload_n 3, 1) := by decide +kernel
theorem dX7_hand_45 : decode cX7_hand 45 = .ok (.getfield 256, 3) := by decide +kernel
theorem dX7_hand_48 : decode cX7_hand 48 = .ok (.aload 4, 2) := by decide +kernel
theorem dX7_hand_50 : decode cX7_hand 50 = .ok (.if_acmp .eq 10, 3) := by decide +kernel
theorem dX7_hand_53 : decode cX7_hand 53 = .ok (.aload_n 3, 1) := by decide +kernel
theorem dX7_hand_54 : decode cX7_hand 54 = .ok (.invokevirtual 257, 3) := by decide +kernel
theorem dX7_hand_57 : decode cX7_hand 57 = .ok (.ifCond .eq 14, 3) := by decide +kernel
theorem dX7_hand_60 : decode cX7_hand 60 = .ok (.new 55, 3) := by decide +kernel
theorem dX7_hand_63 : decode cX7_hand 63 = .ok (.dup, 1) := by decide +kernel
theorem dX7_hand_64 : decode cX7_hand 64 = .ok (.ldc_w 261, 3) := by decide +kernel
theorem dX7_hand_67 : decode cX7_hand 67 = .ok (.invokespecial 59, 3) := by decide +kernel
theorem dX7_hand_70 : decode cX7_hand 70 = .ok (.athrow, 1) := by decide +kernel
theorem dX7_hand_71 : decode cX7_hand 71 = .ok (.aload 4, 2) := by decide +kernel
theorem dX7_hand_73 : decode cX7_hand 73 = .ok (.ifnull 26, 3) := by decide +kernel
theorem dX7_hand_76 : decode cX7_hand 76 = .ok (.aload 4, 2) := by decide +kernel
theorem dX7_hand_78 : decode cX7_hand 78 = .ok (.aload_n 3, 1) := by decide +kernel
theorem dX7_hand_79 : decode cX7_hand 79 = .ok (.getfield 263, 3) := by decide +kernel
theorem dX7_hand_82 : decode cX7_hand 82 = .ok (.invokevirtual 264, 3) := by decide +kernel
theorem dX7_hand_85 : decode cX7_hand 85 = .ok (.ifCond .ne 14, 3) := by decide +kernel
theorem dX7_hand_88 : decode cX7_hand 88 = .ok (.new 55, 3) := by decide +kernel
theorem dX7_hand_91 : decode cX7_hand 91 = .ok (.dup, 1) := by decide +kernel
theorem dX7_hand_92 : decode cX7_hand 92 = .ok (.ldc_w 267, 3) := by decide +kernel
theorem dX7_hand_95 : decode cX7_hand 95 = .ok (.invokespecial 59, 3) := by decide +kernel
theorem dX7_hand_98 : decode cX7_hand 98 = .ok (.athrow, 1) := by decide +kernel
theorem dX7_hand_99 : decode cX7_hand 99 = .ok (.aload_n 3, 1) := by decide +kernel
theorem dX7_hand_100 : decode cX7_hand 100 = .ok (.new 269, 3) := by decide +kernel
theorem dX7_hand_103 : decode cX7_hand 103 = .ok (.dup, 1) := by decide +kernel
theorem dX7_hand_104 : decode cX7_hand 104 = .ok (.aload_n 0, 1) := by decide +kernel
theorem dX7_hand_105 : decode cX7_hand 105 = .ok (.getfield 52, 3) := by decide +kernel
theorem dX7_hand_108 : decode cX7_hand 108 = .ok (.aload_n 3, 1) := by decide +kernel
theorem dX7_hand_109 : decode cX7_hand 109 = .ok (.getfield 256, 3) := by decide +kernel
theorem dX7_hand_112 : decode cX7_hand 112 = .ok (.aload 4, 2) := by decide +kernel
theorem dX7_hand_114 : decode cX7_hand 114 = .ok (.iconst 0, 1) := by decide +kernel
theorem dX7_hand_115 : decode cX7_hand 115 = .ok (.invokespecial 271, 3) := by decide +kernel
theorem dX7_hand_118 : decode cX7_hand 118 = .ok (.invokevirtual 274, 3) := by decide +kernel
theorem dX7_hand_121 : decode cX7_hand 121 = .ok (.aload_n 3, 1) := by decide +kernel
theorem dX7_hand_122 : decode cX7_hand 122 = .ok (.aload 4, 2) := by decide +kernel
theorem dX7_hand_124 : decode cX7_hand 124 = .ok (.putfield 256, 3) := by decide +kernel
theorem dX7_hand_127 : decode cX7_hand 127 = .ok (.aload_n 3, 1) := by decide +kernel
theorem dX7_hand_128 : decode cX7_hand 128 = .ok (.getfield 278, 3) := by decide +kernel
theorem dX7_hand_131 : decode cX7_hand 131 = .ok (.invokevirtual 80, 3) := by decide +kernel
theorem dX7_hand_134 : decode cX7_hand 134 = .ok (.ireturn, 1) := by decide +kernel
theorem dX7_unseal_0 : decode cX7_unseal 0 = .ok (.aload_n 0, 1) := by decide +kernel
theorem dX7_unseal_1 : decode cX7_unseal 1 = .ok (.iload_n 1, 1) := by decide +kernel
theorem dX7_unseal_2 : decode cX7_unseal 2 = .ok (.invokevirtual 246, 3) := by decide +kernel
theorem dX7_unseal_5 : decode cX7_unseal 5 = .ok (.astore_n 2, 1) := by decide +kernel
theorem dX7_unseal_6 : decode cX7_unseal 6 = .ok (.aload_n 2, 1) := by decide +kernel
theorem dX7_unseal_7 : decode cX7_unseal 7 = .ok (.ifnonnull 14, 3) := by decide +kernel
theorem dX7_unseal_10 : decode cX7_unseal 10 = .ok (.new 75, 3) := by decide +kernel
theorem dX7_unseal_13 : decode cX7_unseal 13 = .ok (.dup, 1) := by decide +kernel
theorem dX7_unseal_14 : decode cX7_unseal 14 = .ok (.ldc_w 281, 3) := by decide +kernel
theorem dX7_unseal_17 : decode cX7_unseal 17 = .ok (.invokespecial 79, 3) := by decide +kernel
theorem dX7_unseal_20 : decode cX7_unseal 20 = .ok (.athrow, 1) := by decide +kernel
theorem dX7_unseal_21 : decode cX7_unseal 21 = .ok (.aload_n 2, 1) := by decide +kernel
theorem dX7_unseal_22 : decode cX7_unseal 22 = .ok (.getfield 256, 3) := by decide +kernel
theorem dX7_unseal_25 : decode cX7_unseal 25 = .ok (.ifnull 10, 3) := by decide +kernel
theorem dX7_unseal_28 : decode cX7_unseal 28 = .ok (.aload_n 2, 1) := by decide +kernel
theorem dX7_unseal_29 : decode cX7_unseal 29 = .ok (.invokevirtual 257, 3) := by decide +kernel
theorem dX7_unseal_32 : decode cX7_unseal 32 = .ok (.ifCond .eq 14, 3) := by decide +kernel
theorem dX7_unseal_35 : decode cX7_unseal 35 = .ok (.new 55, 3) := by decide +kernel
theorem dX7_unseal_38 : decode cX7_unseal 38 = .ok (.dup, 1) := by decide +kernel
theorem dX7_unseal_39 : decode cX7_unseal 39 = .ok (.ldc_w 283, 3) := by decide +kernel
theorem dX7_unseal_42 : decode cX7_unseal 42 = .ok (.invokespecial 59, 3) := by decide +kernel
theorem dX7_unseal_45 : decode cX7_unseal 45 = .ok (.athrow, 1) := by decide +kernel
theorem dX7_unseal_46 : decode cX7_unseal 46 = .ok (.aload_n 2, 1) := by decide +kernel
theorem dX7_unseal_47 : decode cX7_unseal 47 = .ok (.new 269, 3) := by decide +kernel
theorem dX7_unseal_50 : decode cX7_unseal 50 = .ok (.dup, 1) := by decide +kernel
theorem dX7_unseal_51 : decode cX7_unseal 51 = .ok (.aload_n 0, 1) := by decide +kernel
theorem dX7_unseal_52 : decode cX7_unseal 52 = .ok (.getfield 52, 3) := by decide +kernel
theorem dX7_unseal_55 : decode cX7_unseal 55 = .ok (.aload_n 2, 1) := by decide +kernel
theorem dX7_unseal_56 : decode cX7_unseal 56 = .ok (.getfield 256, 3) := by decide +kernel
theorem dX7_unseal_59 : decode cX7_unseal 59 = .ok (.aload_n 2, 1) := by decide +kernel
theorem dX7_unseal_60 : decode cX7_unseal 60 = .ok (.getfield 256, 3) := by decide +kernel
theorem dX7_unseal_63 : decode cX7_unseal 63 = .ok (.iconst 2, 1) := by decide +kernel
theorem dX7_unseal_64 : decode cX7_unseal 64 = .ok (.invokespecial 271, 3) := by decide +kernel
theorem dX7_unseal_67 : decode cX7_unseal 67 = .ok (.invokevirtual 274, 3) := by decide +kernel
theorem dX7_unseal_70 : decode cX7_unseal 70 = .ok (.aload_n 2, 1) := by decide +kernel
theorem dX7_unseal_71 : decode cX7_unseal 71 = .ok (.aload_n 2, 1) := by decide +kernel
theorem dX7_unseal_72 : decode cX7_unseal 72 = .ok (.getfield 285, 3) := by decide +kernel
theorem dX7_unseal_75 : decode cX7_unseal 75 = .ok (.bipush 31, 2) := by decide +kernel
theorem dX7_unseal_77 : decode cX7_unseal 77 = .ok (.imul, 1) := by decide +kernel
theorem dX7_unseal_78 : decode cX7_unseal 78 = .ok (.aload_n 0, 1) := by decide +kernel
theorem dX7_unseal_79 : decode cX7_unseal 79 = .ok (.getfield 52, 3) := by decide +kernel
theorem dX7_unseal_82 : decode cX7_unseal 82 = .ok (.iadd, 1) := by decide +kernel
theorem dX7_unseal_83 : decode cX7_unseal 83 = .ok (.sipush 10007, 3) := by decide +kernel
theorem dX7_unseal_86 : decode cX7_unseal 86 = .ok (.irem, 1) := by decide +kernel
theorem dX7_unseal_87 : decode cX7_unseal 87 = .ok (.putfield 285, 3) := by decide +kernel
theorem dX7_unseal_90 : decode cX7_unseal 90 = .ok (.aload_n 2, 1) := by decide +kernel
theorem dX7_unseal_91 : decode cX7_unseal 91 = .ok (.getfield 285, 3) := by decide +kernel
theorem dX7_unseal_94 : decode cX7_unseal 94 = .ok (.ireturn, 1) := by decide +kernel
theorem dX7_lose_0 : decode cX7_lose 0 = .ok (.aload_n 0, 1) := by decide +kernel
theorem dX7_lose_1 : decode cX7_lose 1 = .ok (.iload_n 1, 1) := by decide +kernel
theorem dX7_lose_2 : decode cX7_lose 2 = .ok (.invokevirtual 246, 3) := by decide +kernel
theorem dX7_lose_5 : decode cX7_lose 5 = .ok (.astore_n 2, 1) := by decide +kernel
theorem dX7_lose_6 : decode cX7_lose 6 = .ok (.aload_n 2, 1) := by decide +kernel
theorem dX7_lose_7 : decode cX7_lose 7 = .ok (.ifnonnull 14, 3) := by decide +kernel
theorem dX7_lose_10 : decode cX7_lose 10 = .ok (.new 75, 3) := by decide +kernel
theorem dX7_lose_13 : decode cX7_lose 13 = .ok (.dup, 1) := by decide +kernel
theorem dX7_lose_14 : decode cX7_lose 14 = .ok (.ldc_w 281, 3) := by decide +kernel
theorem dX7_lose_17 : decode cX7_lose 17 = .ok (.invokespecial 79, 3) := by decide +kernel
theorem dX7_lose_20 : decode cX7_lose 20 = .ok (.athrow, 1) := by decide +kernel
theorem dX7_lose_21 : decode cX7_lose 21 = .ok (.aload_n 2, 1) := by decide +kernel
theorem dX7_lose_22 : decode cX7_lose 22 = .ok (.getfield 252, 3) := by decide +kernel
theorem dX7_lose_25 : decode cX7_lose 25 = .ok (.ifCond .eq 14, 3) := by decide +kernel
theorem dX7_lose_28 : decode cX7_lose 28 = .ok (.new 55, 3) := by decide +kernel
theorem dX7_lose_31 : decode cX7_lose 31 = .ok (.dup, 1) := by decide +kernel
theorem dX7_lose_32 : decode cX7_lose 32 = .ok (.ldc_w 288, 3) := by decide +kernel
theorem dX7_lose_35 : decode cX7_lose 35 = .ok (.invokespecial 59, 3) := by decide +kernel
theorem dX7_lose_38 : decode cX7_lose 38 = .ok (.athrow, 1) := by decide +kernel
theorem dX7_lose_39 : decode cX7_lose 39 = .ok (.aload_n 2, 1) := by decide +kernel
theorem dX7_lose_40 : decode cX7_lose 40 = .ok (.getfield 256, 3) := by decide +kernel
theorem dX7_lose_43 : decode cX7_lose 43 = .ok (.invokestatic 232, 3) := by decide +kernel
theorem dX7_lose_46 : decode cX7_lose 46 = .ok (.istore_n 3, 1) := by decide +kernel
theorem dX7_lose_47 : decode cX7_lose 47 = .ok (.aload_n 2, 1) := by decide +kernel
theorem dX7_lose_48 : decode cX7_lose 48 = .ok (.iconst 1, 1) := by decide +kernel
theorem dX7_lose_49 : decode cX7_lose 49 = .ok (.putfield 252, 3) := by decide +kernel
theorem dX7_lose_52 : decode cX7_lose 52 = .ok (.aload_n 2, 1) := by decide +kernel
theorem dX7_lose_53 : decode cX7_lose 53 = .ok (.aconst_null, 1) := by decide +kernel
theorem dX7_lose_54 : decode cX7_lose 54 = .ok (.putfield 256, 3) := by decide +kernel
theorem dX7_lose_57 : decode cX7_lose 57 = .ok (.iload_n 3, 1) := by decide +kernel
theorem dX7_lose_58 : decode cX7_lose 58 = .ok (.ireturn, 1) := by decide +kernel
theorem dX7_found_0 : decode cX7_found 0 = .ok (.aload_n 0, 1) := by decide +kernel
theorem dX7_found_1 : decode cX7_found 1 = .ok (.iload_n 1, 1) := by decide +kernel
theorem dX7_found_2 : decode cX7_found 2 = .ok (.invokevirtual 246, 3) := by decide +kernel
theorem dX7_found_5 : decode cX7_found 5 = .ok (.astore_n 3, 1) := by decide +kernel
theorem dX7_found_6 : decode cX7_found 6 = .ok (.aload_n 0, 1) := by decide +kernel
theorem dX7_found_7 : decode cX7_found 7 = .ok (.iload_n 2, 1) := by decide +kernel
theorem dX7_found_8 : decode cX7_found 8 = .ok (.invokevirtual 151, 3) := by decide +kernel
theorem dX7_found_11 : decode cX7_found 11 = .ok (.astore 4, 2) := by decide +kernel
theorem dX7_found_13 : decode cX7_found 13 = .ok (.aload_n 3, 1) := by decide +kernel
theorem dX7_found_14 : decode cX7_found 14 = .ok (.ifnull 13, 3) := by decide +kernel
theorem dX7_found_17 : decode cX7_found 17 = .ok (.aload 4, 2) := by decide +kernel
theorem dX7_found_19 : decode cX7_found 19 = .ok (.ifnonnull 18, 3) := by decide +kernel
theorem dX7_found_22 : decode cX7_found 22 = .ok (.iload_n 2, 1) := by decide +kernel
theorem dX7_found_23 : decode cX7_found 23 = .ok (.iconst (-1), 1) := by decide +kernel
theorem dX7_found_24 : decode cX7_found 24 = .ok (.if_icmp .eq 13, 3) := by decide +kernel
theorem dX7_found_27 : decode cX7_found 27 = .ok (.new 75, 3) := by decide +kernel
theorem dX7_found_30 : decode cX7_found 30 = .ok (.dup, 1) := by decide +kernel
theorem dX7_found_31 : decode cX7_found 31 = .ok (.ldc 250, 2) := by decide +kernel
theorem dX7_found_33 : decode cX7_found 33 = .ok (.invokespecial 79, 3) := by decide +kernel
theorem dX7_found_36 : decode cX7_found 36 = .ok (.athrow, 1) := by decide +kernel
theorem dX7_found_37 : decode cX7_found 37 = .ok (.aload_n 3, 1) := by decide +kernel
theorem dX7_found_38 : decode cX7_found 38 = .ok (.getfield 252, 3) := by decide +kernel
theorem dX7_found_41 : decode cX7_found 41 = .ok (.ifCond .eq 10, 3) := by decide +kernel
theorem dX7_found_44 : decode cX7_found 44 = .ok (.aload_n 3, 1) := by decide +kernel
theorem dX7_found_45 : decode cX7_found 45 = .ok (.invokevirtual 257, 3) := by decide +kernel
theorem dX7_found_48 : decode cX7_found 48 = .ok (.ifCond .eq 14, 3) := by decide +kernel
theorem dX7_found_51 : decode cX7_found 51 = .ok (.new 55, 3) := by decide +kernel
theorem dX7_found_54 : decode cX7_found 54 = .ok (.dup, 1) := by decide +kernel
theorem dX7_found_55 : decode cX7_found 55 = .ok (.ldc_w 290, 3) := by decide +kernel
theorem dX7_found_58 : decode cX7_found 58 = .ok (.invokespecial 59, 3) := by decide +kernel
theorem dX7_found_61 : decode cX7_found 61 = .ok (.athrow, 1) := by decide +kernel
theorem dX7_found_62 : decode cX7_found 62 = .ok (.aload_n 3, 1) := by decide +kernel
theorem dX7_found_63 : decode cX7_found 63 = .ok (.new 269, 3) := by decide +kernel
theorem dX7_found_66 : decode cX7_found 66 = .ok (.dup, 1) := by decide +kernel
theorem dX7_found_67 : decode cX7_found 67 = .ok (.aload_n 0, 1) := by decide +kernel
theorem dX7_found_68 : decode cX7_found 68 = .ok (.getfield 52, 3) := by decide +kernel
theorem dX7_found_71 : decode cX7_found 71 = .ok (.aconst_null, 1) := by decide +kernel
theorem dX7_found_72 : decode cX7_found 72 = .ok (.aload 4, 2) := by decide +kernel
theorem dX7_found_74 : decode cX7_found 74 = .ok (.iconst 1, 1) := by decide +kernel
theorem dX7_found_75 : decode cX7_found 75 = .ok (.invokespecial 271, 3) := by decide +kernel
theorem dX7_found_78 : decode cX7_found 78 = .ok (.invokevirtual 274, 3) := by decide +kernel
theorem dX7_found_81 : decode cX7_found 81 = .ok (.aload_n 3, 1) := by decide +kernel
theorem dX7_found_82 : decode cX7_found 82 = .ok (.iconst 0, 1) := by decide +kernel
theorem dX7_found_83 : decode cX7_found 83 = .ok (.putfield 252, 3) := by decide +kernel
theorem dX7_found_86 : decode cX7_found 86 = .ok (.aload_n 3, 1) := by decide +kernel
theorem dX7_found_87 : decode cX7_found 87 = .ok (.aload 4, 2) := by decide +kernel
theorem dX7_found_89 : decode cX7_found 89 = .ok (.putfield 256, 3) := by decide +kernel
theorem dX7_found_92 : decode cX7_found 92 = .ok (.aload_n 3, 1) := by decide +kernel
theorem dX7_found_93 : decode cX7_found 93 = .ok (.getfield 278, 3) := by decide +kernel
theorem dX7_found_96 : decode cX7_found 96 = .ok (.invokevirtual 80, 3) := by decide +kernel
theorem dX7_found_99 : decode cX7_found 99 = .ok (.ireturn, 1) := by decide +kernel
theorem dX7_exhibit_0 : decode cX7_exhibit 0 = .ok (.aload_n 0, 1) := by decide +kernel
theorem dX7_exhibit_1 : decode cX7_exhibit 1 = .ok (.iload_n 1, 1) := by decide +kernel
theorem dX7_exhibit_2 : decode cX7_exhibit 2 = .ok (.invokevirtual 246, 3) := by decide +kernel
theorem dX7_exhibit_5 : decode cX7_exhibit 5 = .ok (.astore_n 3, 1) := by decide +kernel
theorem dX7_exhibit_6 : decode cX7_exhibit 6 = .ok (.aload_n 3, 1) := by decide +kernel
theorem dX7_exhibit_7 : decode cX7_exhibit 7 = .ok (.ifnull 13, 3) := by decide +kernel
theorem dX7_exhibit_10 : decode cX7_exhibit 10 = .ok (.iload_n 2, 1) := by decide +kernel
theorem dX7_exhibit_11 : decode cX7_exhibit 11 = .ok (.ifCond .lt 9, 3) := by decide +kernel
theorem dX7_exhibit_14 : decode cX7_exhibit 14 = .ok (.iload_n 2, 1) := by decide +kernel
theorem dX7_exhibit_15 : decode cX7_exhibit 15 = .ok (.bipush 6, 2) := by decide +kernel
theorem dX7_exhibit_17 : decode cX7_exhibit 17 = .ok (.if_icmp .le 14, 3) := by decide +kernel
theorem dX7_exhibit_20 : decode cX7_exhibit 20 = .ok (.new 75, 3) := by decide +kernel
theorem dX7_exhibit_23 : decode cX7_exhibit 23 = .ok (.dup, 1) := by decide +kernel
theorem dX7_exhibit_24 : decode cX7_exhibit 24 = .ok (.ldc_w 292, 3) := by decide +kernel
theorem dX7_exhibit_27 : decode cX7_exhibit 27 = .ok (.invokespecial 79, 3) := by decide +kernel
theorem dX7_exhibit_30 : decode cX7_exhibit 30 = .ok (.athrow, 1) := by decide +kernel
theorem dX7_exhibit_31 : decode cX7_exhibit 31 = .ok (.aload_n 0, 1) := by decide +kernel
theorem dX7_exhibit_32 : decode cX7_exhibit 32 = .ok (.aload_n 3, 1) := by decide +kernel
theorem dX7_exhibit_33 : decode cX7_exhibit 33 = .ok (.iload_n 2, 1) := by decide +kernel
theorem dX7_exhibit_34 : decode cX7_exhibit 34 = .ok (.invokevirtual 294, 3) := by decide +kernel
theorem dX7_exhibit_37 : decode cX7_exhibit 37 = .ok (.ireturn, 1) := by decide +kernel
theorem dX7_link_0 : decode cX7_link 0 = .ok (.aload_n 0, 1) := by decide +kernel
theorem dX7_link_1 : decode cX7_link 1 = .ok (.iload_n 1, 1) := by decide +kernel
theorem dX7_link_2 : decode cX7_link 2 = .ok (.invokevirtual 246, 3) := by decide +kernel
theorem dX7_link_5 : decode cX7_link 5 = .ok (.astore 4, 2) := by decide +kernel
theorem dX7_link_7 : decode cX7_link 7 = .ok (.aload 4, 2) := by decide +kernel
theorem dX7_link_9 : decode cX7_link 9 = .ok (.ifnull 28, 3) := by decide +kernel
theorem dX7_link_12 : decode cX7_link 12 = .ok (.iload_n 2, 1) := by decide +kernel
theorem dX7_link_13 : decode cX7_link 13 = .ok (.ifCond .lt 24, 3) := by decide +kernel
theorem dX7_link_16 : decode cX7_link 16 = .ok (.iload_n 2, 1) := by decide +kernel
theorem dX7_link_17 : decode cX7_link 17 = .ok (.aload 4, 2) := by decide +kernel
theorem dX7_link_19 : decode cX7_link 19 = .ok (.getfield 278, 3) := by decide +kernel
theorem dX7_link_22 : decode cX7_link 22 = .ok (.invokevirtual 80, 3) := by decide +kernel
theorem dX7_link_25 : decode cX7_link 25 = .ok (.if_icmp .ge 12, 3) := by decide +kernel
theorem dX7_link_28 : decode cX7_link 28 = .ok (.iload_n 3, 1) := by decide +kernel
theorem dX7_link_29 : decode cX7_link 29 = .ok (.ifCond .lt 8, 3) := by decide +kernel
theorem dX7_link_32 : decode cX7_link 32 = .ok (.iload_n 3, 1) := by decide +kernel
theorem dX7_link_33 : decode cX7_link 33 = .ok (.iconst 3, 1) := by decide +kernel
theorem dX7_link_34 : decode cX7_link 34 = .ok (.if_icmp .le 14, 3) := by decide +kernel
theorem dX7_link_37 : decode cX7_link 37 = .ok (.new 75, 3) := by decide +kernel
theorem dX7_link_40 : decode cX7_link 40 = .ok (.dup, 1) := by decide +kernel
theorem dX7_link_41 : decode cX7_link 41 = .ok (.ldc_w 298, 3) := by decide +kernel
theorem dX7_link_44 : decode cX7_link 44 = .ok (.invokespecial 79, 3) := by decide +kernel
theorem dX7_link_47 : decode cX7_link 47 = .ok (.athrow, 1) := by decide +kernel
theorem dX7_link_48 : decode cX7_link 48 = .ok (.aload 4, 2) := by decide +kernel
theorem dX7_link_50 : decode cX7_link 50 = .ok (.getfield 278, 3) := by decide +kernel
theorem dX7_link_53 : decode cX7_link 53 = .ok (.iload_n 2, 1) := by decide +kernel
theorem dX7_link_54 : decode cX7_link 54 = .ok (.invokevirtual 300, 3) := by decide +kernel
theorem dX7_link_57 : decode cX7_link 57 = .ok (.checkcast 269, 3) := by decide +kernel
theorem dX7_link_60 : decode cX7_link 60 = .ok (.iload_n 3, 1) := by decide +kernel
theorem dX7_link_61 : decode cX7_link 61 = .ok (.invokestatic 304, 3) := by decide +kernel
theorem dX7_link_64 : decode cX7_link 64 = .ok (.ireturn, 1) := by decide +kernel
theorem dX7_send_0 : decode cX7_send 0 = .ok (.aload_n 0, 1) := by decide +kernel
theorem dX7_send_1 : decode cX7_send 1 = .ok (.iload_n 1, 1) := by decide +kernel
theorem dX7_send_2 : decode cX7_send 2 = .ok (.invokevirtual 104, 3) := by decide +kernel
theorem dX7_send_5 : decode cX7_send 5 = .ok (.astore 4, 2) := by decide +kernel
theorem dX7_send_7 : decode cX7_send 7 = .ok (.aload_n 0, 1) := by decide +kernel
theorem dX7_send_8 : decode cX7_send 8 = .ok (.iload_n 2, 1) := by decide +kernel
theorem dX7_send_9 : decode cX7_send 9 = .ok (.invokevirtual 151, 3) := by decide +kernel
theorem dX7_send_12 : decode cX7_send 12 = .ok (.astore 5, 2) := by decide +kernel
theorem dX7_send_14 : decode cX7_send 14 = .ok (.aload 4, 2) := by decide +kernel
theorem dX7_send_16 : decode cX7_send 16 = .ok (.ifnull 8, 3) := by decide +kernel
theorem dX7_send_19 : decode cX7_send 19 = .ok (.aload 5, 2) := by decide +kernel
theorem dX7_send_21 : decode cX7_send 21 = .ok (.ifnonnull 13, 3) := by decide +kernel
theorem dX7_send_24 : decode cX7_send 24 = .ok (.new 75, 3) := by decide +kernel
theorem dX7_send_27 : decode cX7_send 27 = .ok (.dup, 1) := by decide +kernel
theorem dX7_send_28 : decode cX7_send 28 = .ok (.ldc 219, 2) := by decide +kernel
theorem dX7_send_30 : decode cX7_send 30 = .ok (.invokespecial 79, 3) := by decide +kernel
theorem dX7_send_33 : decode cX7_send 33 = .ok (.athrow, 1) := by decide +kernel
theorem dX7_send_34 : decode cX7_send 34 = .ok (.iload_n 3, 1) := by decide +kernel
theorem dX7_send_35 : decode cX7_send 35 = .ok (.ifCond .lt 9, 3) := by decide +kernel
theorem dX7_send_38 : decode cX7_send 38 = .ok (.iload_n 3, 1) := by decide +kernel
theorem dX7_send_39 : decode cX7_send 39 = .ok (.bipush 30, 2) := by decide +kernel
theorem dX7_send_41 : decode cX7_send 41 = .ok (.if_icmp .le 14, 3) := by decide +kernel
theorem dX7_send_44 : decode cX7_send 44 = .ok (.new 66, 3) := by decide +kernel
theorem dX7_send_47 : decode cX7_send 47 = .ok (.dup, 1) := by decide +kernel
theorem dX7_send_48 : decode cX7_send 48 = .ok (.ldc_w 308, 3) := by decide +kernel
theorem dX7_send_51 : decode cX7_send 51 = .ok (.invokespecial 70, 3) := by decide +kernel
theorem dX7_send_54 : decode cX7_send 54 = .ok (.athrow, 1) := by decide +kernel
theorem dX7_send_55 : decode cX7_send 55 = .ok (.aload_n 0, 1) := by decide +kernel
theorem dX7_send_56 : decode cX7_send 56 = .ok (.getfield 25, 3) := by decide +kernel
theorem dX7_send_59 : decode cX7_send 59 = .ok (.invokevirtual 80, 3) := by decide +kernel
theorem dX7_send_62 : decode cX7_send 62 = .ok (.bipush 40, 2) := by decide +kernel
theorem dX7_send_64 : decode cX7_send 64 = .ok (.if_icmp .lt 14, 3) := by decide +kernel
theorem dX7_send_67 : decode cX7_send 67 = .ok (.new 55, 3) := by decide +kernel
theorem dX7_send_70 : decode cX7_send 70 = .ok (.dup, 1) := by decide +kernel
theorem dX7_send_71 : decode cX7_send 71 = .ok (.ldc_w 310, 3) := by decide +kernel
theorem dX7_send_74 : decode cX7_send 74 = .ok (.invokespecial 59, 3) := by decide +kernel
theorem dX7_send_77 : decode cX7_send 77 = .ok (.athrow, 1) := by decide +kernel
theorem dX7_send_78 : decode cX7_send 78 = .ok (.aload_n 0, 1) := by decide +kernel
theorem dX7_send_79 : decode cX7_send 79 = .ok (.getfield 25, 3) := by decide +kernel
theorem dX7_send_82 : decode cX7_send 82 = .ok (.new 312, 3) := by decide +kernel
theorem dX7_send_85 : decode cX7_send 85 = .ok (.dup, 1) := by decide +kernel
theorem dX7_send_86 : decode cX7_send 86 = .ok (.aload 4, 2) := by decide +kernel
theorem dX7_send_88 : decode cX7_send 88 = .ok (.iload_n 1, 1) := by decide +kernel
theorem dX7_send_89 : decode cX7_send 89 = .ok (.aload 5, 2) := by decide +kernel
theorem dX7_send_91 : decode cX7_send 91 = .ok (.aload_n 0, 1) := by decide +kernel
theorem dX7_send_92 : decode cX7_send 92 = .ok (.getfield 52, 3) := by decide +kernel
theorem dX7_send_95 : decode cX7_send 95 = .ok (.iload_n 3, 1) := by decide +kernel
theorem dX7_send_96 : decode cX7_send 96 = .ok (.iadd, 1) := by decide +kernel
theorem dX7_send_97 : decode cX7_send 97 = .ok (.invokespecial 314, 3) := by decide +kernel
theorem dX7_send_100 : decode cX7_send 100 = .ok (.invokevirtual 100, 3) := by decide +kernel
theorem dX7_send_103 : decode cX7_send 103 = .ok (.pop, 1) := by decide +kernel
theorem dX7_send_104 : decode cX7_send 104 = .ok (.aload_n 0, 1) := by decide +kernel
theorem dX7_send_105 : decode cX7_send 105 = .ok (.getfield 25, 3) := by decide +kernel
theorem dX7_send_108 : decode cX7_send 108 = .ok (.invokevirtual 80, 3) := by decide +kernel
theorem dX7_send_111 : decode cX7_send 111 = .ok (.iconst 1, 1) := by decide +kernel
theorem dX7_send_112 : decode cX7_send 112 = .ok (.isub, 1) := by decide +kernel
theorem dX7_send_113 : decode cX7_send 113 = .ok (.ireturn, 1) := by decide +kernel
theorem dX7_letter_0 : decode cX7_letter 0 = .ok (.aload_n 0, 1) := by decide +kernel
theorem dX7_letter_1 : decode cX7_letter 1 = .ok (.iload_n 1, 1) := by decide +kernel
theorem dX7_letter_2 : decode cX7_letter 2 = .ok (.invokevirtual 317, 3) := by decide +kernel
theorem dX7_letter_5 : decode cX7_letter 5 = .ok (.astore_n 3, 1) := by decide +kernel
theorem dX7_letter_6 : decode cX7_letter 6 = .ok (.aload_n 3, 1) := by decide +kernel
theorem dX7_letter_7 : decode cX7_letter 7 = .ok (.ifnull 12, 3) := by decide +kernel
theorem dX7_letter_10 : decode cX7_letter 10 = .ok (.iload_n 2, 1) := by decide +kernel
theorem dX7_letter_11 : decode cX7_letter 11 = .ok (.ifCond .lt 8, 3) := by decide +kernel
theorem dX7_letter_14 : decode cX7_letter 14 = .ok (.iload_n 2, 1) := by decide +kernel
theorem dX7_letter_15 : decode cX7_letter 15 = .ok (.iconst 4, 1) := by decide +kernel
theorem dX7_letter_16 : decode cX7_letter 16 = .ok (.if_icmp .le 14, 3) := by decide +kernel
theorem dX7_letter_19 : decode cX7_letter 19 = .ok (.new 75, 3) := by decide +kernel
theorem dX7_letter_22 : decode cX7_letter 22 = .ok (.dup, 1) := by decide +kernel
theorem dX7_letter_23 : decode cX7_letter 23 = .ok (.ldc_w 321, 3) := by decide +kernel
theorem dX7_letter_26 : decode cX7_letter 26 = .ok (.invokespecial 79, 3) := by decide +kernel
theorem dX7_letter_29 : decode cX7_letter 29 = .ok (.athrow, 1) := by decide +kernel
theorem dX7_letter_30 : decode cX7_letter 30 = .ok (.aload_n 3, 1) := by decide +kernel
theorem dX7_letter_31 : decode cX7_letter 31 = .ok (.iload_n 2, 1) := by decide +kernel
theorem dX7_letter_32 : decode cX7_letter 32 = .ok (.invokestatic 323, 3) := by decide +kernel
theorem dX7_letter_35 : decode cX7_letter 35 = .ok (.ireturn, 1) := by decide +kernel
theorem dX7_pass_0 : decode cX7_pass 0 = .ok (.iload_n 1, 1) := by decide +kernel
theorem dX7_pass_1 : decode cX7_pass 1 = .ok (.iconst 1, 1) := by decide +kernel
theorem dX7_pass_2 : decode cX7_pass 2 = .ok (.if_icmp .lt 9, 3) := by decide +kernel
theorem dX7_pass_5 : decode cX7_pass 5 = .ok (.iload_n 1, 1) := by decide +kernel
theorem dX7_pass_6 : decode cX7_pass 6 = .ok (.bipush 100, 2) := by decide +kernel
theorem dX7_pass_8 : decode cX7_pass 8 = .ok (.if_icmp .le 14, 3) := by decide +kernel
theorem dX7_pass_11 : decode cX7_pass 11 = .ok (.new 66, 3) := by decide +kernel
theorem dX7_pass_14 : decode cX7_pass 14 = .ok (.dup, 1) := by decide +kernel
theorem dX7_pass_15 : decode cX7_pass 15 = .ok (.ldc_w 327, 3) := by decide +kernel
theorem dX7_pass_18 : decode cX7_pass 18 = .ok (.invokespecial 70, 3) := by decide +kernel
theorem dX7_pass_21 : decode cX7_pass 21 = .ok (.athrow, 1) := by decide +kernel
theorem dX7_pass_22 : decode cX7_pass 22 = .ok (.iconst 0, 1) := by decide +kernel
theorem dX7_pass_23 : decode cX7_pass 23 = .ok (.istore_n 2, 1) := by decide +kernel
theorem dX7_pass_24 : decode cX7_pass 24 = .ok (.iconst 0, 1) := by decide +kernel
theorem dX7_pass_25 : decode cX7_pass 25 = .ok (.istore_n 3, 1) := by decide +kernel
theorem dX7_pass_26 : decode cX7_pass 26 = .ok (.iload_n 3, 1) := by decide +kernel
theorem dX7_pass_27 : decode cX7_pass 27 = .ok (.iload_n 1, 1) := by decide +kernel
theorem dX7_pass_28 : decode cX7_pass 28 = .ok (.if_icmp .ge 30, 3) := by decide +kernel
theorem dX7_pass_31 : decode cX7_pass 31 = .ok (.iload_n 2, 1) := by decide +kernel
theorem dX7_pass_32 : decode cX7_pass 32 = .ok (.aload_n 0, 1) := by decide +kernel
theorem dX7_pass_33 : decode cX7_pass 33 = .ok (.invokevirtual 329, 3) := by decide +kernel
theorem dX7_pass_36 : decode cX7_pass 36 = .ok (.iadd, 1) := by decide +kernel
theorem dX7_pass_37 : decode cX7_pass 37 = .ok (.istore_n 2, 1) := by decide +kernel
theorem dX7_pass_38 : decode cX7_pass 38 = .ok (.aload_n 0, 1) := by decide +kernel
theorem dX7_pass_39 : decode cX7_pass 39 = .ok (.dup, 1) := by decide +kernel
theorem dX7_pass_40 : decode cX7_pass 40 = .ok (.getfield 52, 3) := by decide +kernel
theorem dX7_pass_43 : decode cX7_pass 43 = .ok (.iconst 1, 1) := by decide +kernel
theorem dX7_pass_44 : decode cX7_pass 44 = .ok (.iadd, 1) := by decide +kernel
theorem dX7_pass_45 : decode cX7_pass 45 = .ok (.putfield 52, 3) := by decide +kernel
theorem dX7_pass_48 : decode cX7_pass 48 = .ok (.aload_n 0, 1) := by decide +kernel
theorem dX7_pass_49 : decode cX7_pass 49 = .ok (.invokevirtual 332, 3) := by decide +kernel
theorem dX7_pass_52 : decode cX7_pass 52 = .ok (.iinc 3 1, 3) := by decide +kernel
theorem dX7_pass_55 : decode cX7_pass 55 = .ok (.goto (-29), 3) := by decide +kernel
theorem dX7_pass_58 : decode cX7_pass 58 = .ok (.iload_n 2, 1) := by decide +kernel
theorem dX7_pass_59 : decode cX7_pass 59 = .ok (.ireturn, 1) := by decide +kernel
theorem dX7_arrives_0 : decode cX7_arrives 0 = .ok (.aload_n 0, 1) := by decide +kernel
theorem dX7_arrives_1 : decode cX7_arrives 1 = .ok (.iload_n 1, 1) := by decide +kernel
theorem dX7_arrives_2 : decode cX7_arrives 2 = .ok (.invokevirtual 317, 3) := by decide +kernel
theorem dX7_arrives_5 : decode cX7_arrives 5 = .ok (.astore_n 2, 1) := by decide +kernel
theorem dX7_arrives_6 : decode cX7_arrives 6 = .ok (.aload_n 2, 1) := by decide +kernel
theorem dX7_arrives_7 : decode cX7_arrives 7 = .ok (.ifnonnull 14, 3) := by decide +kernel
theorem dX7_arrives_10 : decode cX7_arrives 10 = .ok (.new 75, 3) := by decide +kernel
theorem dX7_arrives_13 : decode cX7_arrives 13 = .ok (.dup, 1) := by decide +kernel
theorem dX7_arrives_14 : decode cX7_arrives 14 = .ok (.ldc_w 335, 3) := by decide +kernel
theorem dX7_arrives_17 : decode cX7_arrives 17 = .ok (.invokespecial 79, 3) := by decide +kernel
theorem dX7_arrives_20 : decode cX7_arrives 20 = .ok (.athrow, 1) := by decide +kernel
theorem dX7_arrives_21 : decode cX7_arrives 21 = .ok (.aload_n 2, 1) := by decide +kernel
theorem dX7_arrives_22 : decode cX7_arrives 22 = .ok (.getfield 337, 3) := by decide +kernel
theorem dX7_arrives_25 : decode cX7_arrives 25 = .ok (.iconst 1, 1) := by decide +kernel
theorem dX7_arrives_26 : decode cX7_arrives 26 = .ok (.if_icmp .ne 5, 3) := by decide +kernel
theorem dX7_arrives_29 : decode cX7_arrives 29 = .ok (.iconst 0, 1) := by decide +kernel
theorem dX7_arrives_30 : decode cX7_arrives 30 = .ok (.ireturn, 1) := by decide +kernel
theorem dX7_arrives_31 : decode cX7_arrives 31 = .ok (.aload_n 0, 1) := by decide +kernel
theorem dX7_arrives_32 : decode cX7_arrives 32 = .ok (.invokevirtual 340, 3) := by decide +kernel
theorem dX7_arrives_35 : decode cX7_arrives 35 = .ok (.istore_n 3, 1) := by decide +kernel
theorem dX7_arrives_36 : decode cX7_arrives 36 = .ok (.aload_n 2, 1) := by decide +kernel
theorem dX7_arrives_37 : decode cX7_arrives 37 = .ok (.getfield 337, 3) := by decide +kernel
theorem dX7_arrives_40 : decode cX7_arrives 40 = .ok (.iconst 2, 1) := by decide +kernel
theorem dX7_arrives_41 : decode cX7_arrives 41 = .ok (.if_icmp .eq 7, 3) := by decide +kernel
theorem dX7_arrives_44 : decode cX7_arrives 44 = .ok (.iload_n 3, 1) := by decide +kernel
theorem dX7_arrives_45 : decode cX7_arrives 45 = .ok (.ifCond .gt 5, 3) := by decide +kernel
theorem dX7_arrives_48 : decode cX7_arrives 48 = .ok (.iconst (-1), 1) := by decide +kernel
theorem dX7_arrives_49 : decode cX7_arrives 49 = .ok (.ireturn, 1) := by decide +kernel
theorem dX7_arrives_50 : decode cX7_arrives 50 = .ok (.aload_n 0, 1) := by decide +kernel
theorem dX7_arrives_51 : decode cX7_arrives 51 = .ok (.iload_n 1, 1) := by decide +kernel
theorem dX7_arrives_52 : decode cX7_arrives 52 = .ok (.aload_n 2, 1) := by decide +kernel
theorem dX7_arrives_53 : decode cX7_arrives 53 = .ok (.invokevirtual 343, 3) := by decide +kernel
theorem dX7_arrives_56 : decode cX7_arrives 56 = .ok (.iload_n 3, 1) := by decide +kernel
theorem dX7_arrives_57 : decode cX7_arrives 57 = .ok (.idiv, 1) := by decide +kernel
theorem dX7_arrives_58 : decode cX7_arrives 58 = .ok (.iconst 1, 1) := by decide +kernel
theorem dX7_arrives_59 : decode cX7_arrives 59 = .ok (.iadd, 1) := by decide +kernel
theorem dX7_arrives_60 : decode cX7_arrives 60 = .ok (.istore 4, 2) := by decide +kernel
theorem dX7_arrives_62 : decode cX7_arrives 62 = .ok (.aload_n 2, 1) := by decide +kernel
theorem dX7_arrives_63 : decode cX7_arrives 63 = .ok (.getfield 347, 3) := by decide +kernel
theorem dX7_arrives_66 : decode cX7_arrives 66 = .ok (.getfield 181, 3) := by decide +kernel
theorem dX7_arrives_69 : decode cX7_arrives 69 = .ok (.astore 5, 2) := by decide +kernel
theorem dX7_arrives_71 : decode cX7_arrives 71 = .ok (.aload 5, 2) := by decide +kernel
theorem dX7_arrives_73 : decode cX7_arrives 73 = .ok (.getfield 139, 3) := by decide +kernel
theorem dX7_arrives_76 : decode cX7_arrives 76 = .ok (.aload_n 2, 1) := by decide +kernel
theorem dX7_arrives_77 : decode cX7_arrives 77 = .ok (.getfield 351, 3) := by decide +kernel
theorem dX7_arrives_80 : decode cX7_arrives 80 = .ok (.aload_n 0, 1) := by decide +kernel
theorem dX7_arrives_81 : decode cX7_arrives 81 = .ok (.aload_n 2, 1) := by decide +kernel
theorem dX7_arrives_82 : decode cX7_arrives 82 = .ok (.getfield 351, 3) := by decide +kernel
theorem dX7_arrives_85 : decode cX7_arrives 85 = .ok (.iload 4, 2) := by decide +kernel
theorem dX7_arrives_87 : decode cX7_arrives 87 = .ok (.iconst 1, 1) := by decide +kernel
theorem dX7_arrives_88 : decode cX7_arrives 88 = .ok (.isub, 1) := by decide +kernel
theorem dX7_arrives_89 : decode cX7_arrives 89 = .ok (.invokevirtual 354, 3) := by decide +kernel
theorem dX7_arrives_92 : decode cX7_arrives 92 = .ok (.aload 5, 2) := by decide +kernel
theorem dX7_arrives_94 : decode cX7_arrives 94 = .ok (.invokevirtual 357, 3) := by decide +kernel
theorem dX7_arrives_97 : decode cX7_arrives 97 = .ok (.if_icmp .gt 8, 3) := by decide +kernel
theorem dX7_arrives_100 : decode cX7_arrives 100 = .ok (.iload 4, 2) := by decide +kernel
theorem dX7_arrives_102 : decode cX7_arrives 102 = .ok (.goto 4, 3) := by decide +kernel
theorem dX7_arrives_105 : decode cX7_arrives 105 = .ok (.iconst (-1), 1) := by decide +kernel
theorem dX7_arrives_106 : decode cX7_arrives 106 = .ok (.ireturn, 1) := by decide +kernel
theorem dX7_count_0 : decode cX7_count 0 = .ok (.iload_n 1, 1) := by decide +kernel
theorem dX7_count_1 : decode cX7_count 1 = .ok (.ifCond .lt 9, 3) := by decide +kernel
theorem dX7_count_4 : decode cX7_count 4 = .ok (.iload_n 1, 1) := by decide +kernel
theorem dX7_count_5 : decode cX7_count 5 = .ok (.bipush 11, 2) := by decide +kernel
theorem dX7_count_7 : decode cX7_count 7 = .ok (.if_icmp .le 14, 3) := by decide +kernel
theorem dX7_count_10 : decode cX7_count 10 = .ok (.new 75, 3) := by decide +kernel
theorem dX7_count_13 : decode cX7_count 13 = .ok (.dup, 1) := by decide +kernel
theorem dX7_count_14 : decode cX7_count 14 = .ok (.ldc_w 361, 3) := by decide +kernel
theorem dX7_count_17 : decode cX7_count 17 = .ok (.invokespecial 79, 3) := by decide +kernel
theorem dX7_count_20 : decode cX7_count 20 = .ok (.athrow, 1) := by decide +kernel
theorem dX7_count_21 : decode cX7_count 21 = .ok (.aload_n 0, 1) := by decide +kernel
theorem dX7_count_22 : decode cX7_count 22 = .ok (.iload_n 1, 1) := by decide +kernel
theorem dX7_count_23 : decode cX7_count 23 = .ok (.invokevirtual 363, 3) := by decide +kernel
theorem dX7_count_26 : decode cX7_count 26 = .ok (.ireturn, 1) := by decide +kernel
theorem dX7_sees_0 : decode cX7_sees 0 = .ok (.aload_n 0, 1) := by decide +kernel
theorem dX7_sees_1 : decode cX7_sees 1 = .ok (.iload_n 1, 1) := by decide +kernel
theorem dX7_sees_2 : decode cX7_sees 2 = .ok (.invokevirtual 71, 3) := by decide +kernel
theorem dX7_sees_5 : decode cX7_sees 5 = .ok (.astore_n 2, 1) := by decide +kernel
theorem dX7_sees_6 : decode cX7_sees 6 = .ok (.aload_n 2, 1) := by decide +kernel
theorem dX7_sees_7 : decode cX7_sees 7 = .ok (.ifnonnull 13, 3) := by decide +kernel
theorem dX7_sees_10 : decode cX7_sees 10 = .ok (.new 75, 3) := by decide +kernel
theorem dX7_sees_13 : decode cX7_sees 13 = .ok (.dup, 1) := by decide +kernel
theorem dX7_sees_14 : decode cX7_sees 14 = .ok (.ldc 77, 2) := by decide +kernel
theorem dX7_sees_16 : decode cX7_sees 16 = .ok (.invokespecial 79, 3) := by decide +kernel
theorem dX7_sees_19 : decode cX7_sees 19 = .ok (.athrow, 1) := by decide +kernel
theorem dX7_sees_20 : decode cX7_sees 20 = .ok (.iconst (-1), 1) := by decide +kernel
theorem dX7_sees_21 : decode cX7_sees 21 = .ok (.istore_n 3, 1) := by decide +kernel
theorem dX7_sees_22 : decode cX7_sees 22 = .ok (.iconst 0, 1) := by decide +kernel
theorem dX7_sees_23 : decode cX7_sees 23 = .ok (.istore 4, 2) := by decide +kernel
theorem dX7_sees_25 : decode cX7_sees 25 = .ok (.iconst 0, 1) := by decide +kernel
theorem dX7_sees_26 : decode cX7_sees 26 = .ok (.istore 5, 2) := by decide +kernel
theorem dX7_sees_28 : decode cX7_sees 28 = .ok (.iload 5, 2) := by decide +kernel
theorem dX7_sees_30 : decode cX7_sees 30 = .ok (.aload_n 0, 1) := by decide +kernel
theorem dX7_sees_31 : decode cX7_sees 31 = .ok (.getfield 16, 3) := by decide +kernel
theorem dX7_sees_34 : decode cX7_sees 34 = .ok (.invokevirtual 80, 3) := by decide +kernel
theorem dX7_sees_37 : decode cX7_sees 37 = .ok (.if_icmp .ge 68, 3) := by decide +kernel
theorem dX7_sees_40 : decode cX7_sees 40 = .ok (.aload_n 0, 1) := by decide +kernel
theorem dX7_sees_41 : decode cX7_sees 41 = .ok (.getfield 16, 3) := by decide +kernel
theorem dX7_sees_44 : decode cX7_sees 44 = .ok (.iload 5, 2) := by decide +kernel
theorem dX7_sees_46 : decode cX7_sees 46 = .ok (.invokevirtual 300, 3) := by decide +kernel
theorem dX7_sees_49 : decode cX7_sees 49 = .ok (.checkcast 146, 3) := by decide +kernel
theorem dX7_sees_52 : decode cX7_sees 52 = .ok (.astore 6, 2) := by decide +kernel
theorem dX7_sees_54 : decode cX7_sees 54 = .ok (.aload 6, 2) := by decide +kernel
theorem dX7_sees_56 : decode cX7_sees 56 = .ok (.getfield 367, 3) := by decide +kernel
theorem dX7_sees_59 : decode cX7_sees 59 = .ok (.iconst 2, 1) := by decide +kernel
theorem dX7_sees_60 : decode cX7_sees 60 = .ok (.if_icmp .eq 12, 3) := by decide +kernel
theorem dX7_sees_63 : decode cX7_sees 63 = .ok (.aload 6, 2) := by decide +kernel
theorem dX7_sees_65 : decode cX7_sees 65 = .ok (.getfield 367, 3) := by decide +kernel
theorem dX7_sees_68 : decode cX7_sees 68 = .ok (.iconst 3, 1) := by decide +kernel
theorem dX7_sees_69 : decode cX7_sees 69 = .ok (.if_icmp .ne 13, 3) := by decide +kernel
theorem dX7_sees_72 : decode cX7_sees 72 = .ok (.aload_n 0, 1) := by decide +kernel
theorem dX7_sees_73 : decode cX7_sees 73 = .ok (.aload 6, 2) := by decide +kernel
theorem dX7_sees_75 : decode cX7_sees 75 = .ok (.aload_n 2, 1) := by decide +kernel
theorem dX7_sees_76 : decode cX7_sees 76 = .ok (.invokevirtual 370, 3) := by decide +kernel
theorem dX7_sees_79 : decode cX7_sees 79 = .ok (.goto 4, 3) := by decide +kernel
theorem dX7_sees_82 : decode cX7_sees 82 = .ok (.iconst 0, 1) := by decide +kernel
theorem dX7_sees_83 : decode cX7_sees 83 = .ok (.istore 7, 2) := by decide +kernel
theorem dX7_sees_85 : decode cX7_sees 85 = .ok (.iload 7, 2) := by decide +kernel
theorem dX7_sees_87 : decode cX7_sees 87 = .ok (.iload 4, 2) := by decide +kernel
theorem dX7_sees_89 : decode cX7_sees 89 = .ok (.if_icmp .le 10, 3) := by decide +kernel
theorem dX7_sees_92 : decode cX7_sees 92 = .ok (.iload 7, 2) := by decide +kernel
theorem dX7_sees_94 : decode cX7_sees 94 = .ok (.istore 4, 2) := by decide +kernel
theorem dX7_sees_96 : decode cX7_sees 96 = .ok (.iload 5, 2) := by decide +kernel
theorem dX7_sees_98 : decode cX7_sees 98 = .ok (.istore_n 3, 1) := by decide +kernel
theorem dX7_sees_99 : decode cX7_sees 99 = .ok (.iinc 5 1, 3) := by decide +kernel
theorem dX7_sees_102 : decode cX7_sees 102 = .ok (.goto (-74), 3) := by decide +kernel
theorem dX7_sees_105 : decode cX7_sees 105 = .ok (.iload_n 3, 1) := by decide +kernel
theorem dX7_sees_106 : decode cX7_sees 106 = .ok (.ireturn, 1) := by decide +kernel
theorem dX7_plain_0 : decode cX7_plain 0 = .ok (.iconst 0, 1) := by decide +kernel
theorem dX7_plain_1 : decode cX7_plain 1 = .ok (.istore_n 1, 1) := by decide +kernel
theorem dX7_plain_2 : decode cX7_plain 2 = .ok (.iconst 0, 1) := by decide +kernel
theorem dX7_plain_3 : decode cX7_plain 3 = .ok (.istore_n 2, 1) := by decide +kernel
theorem dX7_plain_4 : decode cX7_plain 4 = .ok (.iconst 0, 1) := by decide +kernel
theorem dX7_plain_5 : decode cX7_plain 5 = .ok (.istore_n 3, 1) := by decide +kernel
theorem dX7_plain_6 : decode cX7_plain 6 = .ok (.iload_n 3, 1) := by decide +kernel
theorem dX7_plain_7 : decode cX7_plain 7 = .ok (.aload_n 0, 1) := by decide +kernel
theorem dX7_plain_8 : decode cX7_plain 8 = .ok (.getfield 19, 3) := by decide +kernel
theorem dX7_plain_11 : decode cX7_plain 11 = .ok (.invokevirtual 80, 3) := by decide +kernel
theorem dX7_plain_14 : decode cX7_plain 14 = .ok (.if_icmp .ge 44, 3) := by decide +kernel
theorem dX7_plain_17 : decode cX7_plain 17 = .ok (.iload_n 1, 1) := by decide +kernel
theorem dX7_plain_18 : decode cX7_plain 18 = .ok (.aload_n 0, 1) := by decide +kernel
theorem dX7_plain_19 : decode cX7_plain 19 = .ok (.getfield 19, 3) := by decide +kernel
theorem dX7_plain_22 : decode cX7_plain 22 = .ok (.iload_n 3, 1) := by decide +kernel
theorem dX7_plain_23 : decode cX7_plain 23 = .ok (.invokevirtual 300, 3) := by decide +kernel
theorem dX7_plain_26 : decode cX7_plain 26 = .ok (.checkcast 95, 3) := by decide +kernel
theorem dX7_plain_29 : decode cX7_plain 29 = .ok (.getfield 202, 3) := by decide +kernel
theorem dX7_plain_32 : decode cX7_plain 32 = .ok (.arraylength, 1) := by decide +kernel
theorem dX7_plain_33 : decode cX7_plain 33 = .ok (.iadd, 1) := by decide +kernel
theorem dX7_plain_34 : decode cX7_plain 34 = .ok (.istore_n 1, 1) := by decide +kernel
theorem dX7_plain_35 : decode cX7_plain 35 = .ok (.iload_n 2, 1) := by decide +kernel
theorem dX7_plain_36 : decode cX7_plain 36 = .ok (.aload_n 0, 1) := by decide +kernel
theorem dX7_plain_37 : decode cX7_plain 37 = .ok (.getfield 19, 3) := by decide +kernel
theorem dX7_plain_40 : decode cX7_plain 40 = .ok (.iload_n 3, 1) := by decide +kernel
theorem dX7_plain_41 : decode cX7_plain 41 = .ok (.invokevirtual 300, 3) := by decide +kernel
theorem dX7_plain_44 : decode cX7_plain 44 = .ok (.checkcast 95, 3) := by decide +kernel
theorem dX7_plain_47 : decode cX7_plain 47 = .ok (.invokevirtual 374, 3) := by decide +kernel
theorem dX7_plain_50 : decode cX7_plain 50 = .ok (.iadd, 1) := by decide +kernel
theorem dX7_plain_51 : decode cX7_plain 51 = .ok (.istore_n 2, 1) := by decide +kernel
theorem dX7_plain_52 : decode cX7_plain 52 = .ok (.iinc 3 1, 3) := by decide +kernel
theorem dX7_plain_55 : decode cX7_plain 55 = .ok (.goto (-49), 3) := by decide +kernel
theorem dX7_plain_58 : decode cX7_plain 58 = .ok (.iload_n 1, 1) := by decide +kernel
theorem dX7_plain_59 : decode cX7_plain 59 = .ok (.ifCond .gt 5, 3) := by decide +kernel
theorem dX7_plain_62 : decode cX7_plain 62 = .ok (.dconst 1, 1) := by decide +kernel
theorem dX7_plain_63 : decode cX7_plain 63 = .ok (.dreturn, 1) := by decide +kernel
theorem dX7_plain_64 : decode cX7_plain 64 = .ok (.iload_n 1, 1) := by decide +kernel
theorem dX7_plain_65 : decode cX7_plain 65 = .ok (.iload_n 2, 1) := by decide +kernel
theorem dX7_plain_66 : decode cX7_plain 66 = .ok (.isub, 1) := by decide +kernel
theorem dX7_plain_67 : decode cX7_plain 67 = .ok (.i2d, 1) := by decide +kernel
theorem dX7_plain_68 : decode cX7_plain 68 = .ok (.iload_n 1, 1) := by decide +kernel
theorem dX7_plain_69 : decode cX7_plain 69 = .ok (.i2d, 1) := by decide +kernel
theorem dX7_plain_70 : decode cX7_plain 70 = .ok (.ddiv, 1) := by decide +kernel
theorem dX7_plain_71 : decode cX7_plain 71 = .ok (.dreturn, 1) := by decide +kernel
theorem dX7_digest_0 : decode cX7_digest 0 = .ok (.ldc2_w 377, 3) := by decide +kernel
theorem dX7_digest_3 : decode cX7_digest 3 = .ok (.lstore_n 1, 1) := by decide +kernel
theorem dX7_digest_4 : decode cX7_digest 4 = .ok (.iconst 0, 1) := by decide +kernel
theorem dX7_digest_5 : decode cX7_digest 5 = .ok (.istore_n 3, 1) := by decide +kernel
theorem dX7_digest_6 : decode cX7_digest 6 = .ok (.iload_n 3, 1) := by decide +kernel
theorem dX7_digest_7 : decode cX7_digest 7 = .ok (.bipush 11, 2) := by decide +kernel
theorem dX7_digest_9 : decode cX7_digest 9 = .ok (.if_icmp .gt 22, 3) := by decide +kernel
theorem dX7_digest_12 : decode cX7_digest 12 = .ok (.lload_n 1, 1) := by decide +kernel
theorem dX7_digest_13 : decode cX7_digest 13 = .ok (.ldc2_w 379, 3) := by decide +kernel
theorem dX7_digest_16 : decode cX7_digest 16 = .ok (.lmul, 1) := by decide +kernel
theorem dX7_digest_17 : decode cX7_digest 17 = .ok (.aload_n 0, 1) := by decide +kernel
theorem dX7_digest_18 : decode cX7_digest 18 = .ok (.iload_n 3, 1) := by decide +kernel
theorem dX7_digest_19 : decode cX7_digest 19 = .ok (.invokevirtual 363, 3) := by decide +kernel
theorem dX7_digest_22 : decode cX7_digest 22 = .ok (.i2l, 1) := by decide +kernel
theorem dX7_digest_23 : decode cX7_digest 23 = .ok (.ladd, 1) := by decide +kernel
theorem dX7_digest_24 : decode cX7_digest 24 = .ok (.lstore_n 1, 1) := by decide +kernel
theorem dX7_digest_25 : decode cX7_digest 25 = .ok (.iinc 3 1, 3) := by decide +kernel
theorem dX7_digest_28 : decode cX7_digest 28 = .ok (.goto (-22), 3) := by decide +kernel
theorem dX7_digest_31 : decode cX7_digest 31 = .ok (.aload_n 0, 1) := by decide +kernel
theorem dX7_digest_32 : decode cX7_digest 32 = .ok (.lload_n 1, 1) := by decide +kernel
theorem dX7_digest_33 : decode cX7_digest 33 = .ok (.invokevirtual 381, 3) := by decide +kernel
theorem dX7_digest_36 : decode cX7_digest 36 = .ok (.lstore_n 1, 1) := by decide +kernel
theorem dX7_digest_37 : decode cX7_digest 37 = .ok (.aload_n 0, 1) := by decide +kernel
theorem dX7_digest_38 : decode cX7_digest 38 = .ok (.lload_n 1, 1) := by decide +kernel
theorem dX7_digest_39 : decode cX7_digest 39 = .ok (.invokevirtual 385, 3) := by decide +kernel
theorem dX7_digest_42 : decode cX7_digest 42 = .ok (.lstore_n 1, 1) := by decide +kernel
theorem dX7_digest_43 : decode cX7_digest 43 = .ok (.aload_n 0, 1) := by decide +kernel
theorem dX7_digest_44 : decode cX7_digest 44 = .ok (.lload_n 1, 1) := by decide +kernel
theorem dX7_digest_45 : decode cX7_digest 45 = .ok (.invokevirtual 388, 3) := by decide +kernel
theorem dX7_digest_48 : decode cX7_digest 48 = .ok (.lstore_n 1, 1) := by decide +kernel
theorem dX7_digest_49 : decode cX7_digest 49 = .ok (.aload_n 0, 1) := by decide +kernel
theorem dX7_digest_50 : decode cX7_digest 50 = .ok (.lload_n 1, 1) := by decide +kernel
theorem dX7_digest_51 : decode cX7_digest 51 = .ok (.invokevirtual 391, 3) := by decide +kernel
theorem dX7_digest_54 : decode cX7_digest 54 = .ok (.lstore_n 1, 1) := by decide +kernel
theorem dX7_digest_55 : decode cX7_digest 55 = .ok (.aload_n 0, 1) := by decide +kernel
theorem dX7_digest_56 : decode cX7_digest 56 = .ok (.lload_n 1, 1) := by decide +kernel
theorem dX7_digest_57 : decode cX7_digest 57 = .ok (.invokevirtual 394, 3) := by decide +kernel
theorem dX7_digest_60 : decode cX7_digest 60 = .ok (.lstore_n 1, 1) := by decide +kernel
theorem dX7_digest_61 : decode cX7_digest 61 = .ok (.iconst 0, 1) := by decide +kernel
theorem dX7_digest_62 : decode cX7_digest 62 = .ok (.istore_n 3, 1) := by decide +kernel
theorem dX7_digest_63 : decode cX7_digest 63 = .ok (.iload_n 3, 1) := by decide +kernel
theorem dX7_digest_64 : decode cX7_digest 64 = .ok (.aload_n 0, 1) := by decide +kernel
theorem dX7_digest_65 : decode cX7_digest 65 = .ok (.getfield 39, 3) := by decide +kernel
theorem dX7_digest_68 : decode cX7_digest 68 = .ok (.if_icmp .ge 32, 3) := by decide +kernel
theorem dX7_digest_71 : decode cX7_digest 71 = .ok (.iload_n 3, 1) := by decide +kernel
theorem dX7_digest_72 : decode cX7_digest 72 = .ok (.aload_n 0, 1) := by decide +kernel
theorem dX7_digest_73 : decode cX7_digest 73 = .ok (.getfield 36, 3) := by decide +kernel
theorem dX7_digest_76 : decode cX7_digest 76 = .ok (.arraylength, 1) := by decide +kernel
theorem dX7_digest_77 : decode cX7_digest 77 = .ok (.if_icmp .ge 23, 3) := by decide +kernel
theorem dX7_digest_80 : decode cX7_digest 80 = .ok (.lload_n 1, 1) := by decide +kernel
theorem dX7_digest_81 : decode cX7_digest 81 = .ok (.ldc2_w 379, 3) := by decide +kernel
theorem dX7_digest_84 : decode cX7_digest 84 = .ok (.lmul, 1) := by decide +kernel
theorem dX7_digest_85 : decode cX7_digest 85 = .ok (.aload_n 0, 1) := by decide +kernel
theorem dX7_digest_86 : decode cX7_digest 86 = .ok (.getfield 36, 3) := by decide +kernel
theorem dX7_digest_89 : decode cX7_digest 89 = .ok (.iload_n 3, 1) := by decide +kernel
theorem dX7_digest_90 : decode cX7_digest 90 = .ok (.iaload, 1) := by decide +kernel
theorem dX7_digest_91 : decode cX7_digest 91 = .ok (.i2l, 1) := by decide +kernel
theorem dX7_digest_92 : decode cX7_digest 92 = .ok (.ladd, 1) := by decide +kernel
theorem dX7_digest_93 : decode cX7_digest 93 = .ok (.lstore_n 1, 1) := by decide +kernel
theorem dX7_digest_94 : decode cX7_digest 94 = .ok (.iinc 3 1, 3) := by decide +kernel
theorem dX7_digest_97 : decode cX7_digest 97 = .ok (.goto (-34), 3) := by decide +kernel
theorem dX7_digest_100 : decode cX7_digest 100 = .ok (.lload_n 1, 1) := by decide +kernel
theorem dX7_digest_101 : decode cX7_digest 101 = .ok (.lreturn, 1) := by decide +kernel
theorem dX7_caseAt_0 : decode cX7_caseAt 0 = .ok (.iload_n 1, 1) := by decide +kernel
theorem dX7_caseAt_1 : decode cX7_caseAt 1 = .ok (.ifCond .lt 14, 3) := by decide +kernel
theorem dX7_caseAt_4 : decode cX7_caseAt 4 = .ok (.iload_n 1, 1) := by decide +kernel
theorem dX7_caseAt_5 : decode cX7_caseAt 5 = .ok (.aload_n 0, 1) := by decide +kernel
theorem dX7_caseAt_6 : decode cX7_caseAt 6 = .ok (.getfield 12, 3) := by decide +kernel
theorem dX7_caseAt_9 : decode cX7_caseAt 9 = .ok (.invokevirtual 80, 3) := by decide +kernel
theorem dX7_caseAt_12 : decode cX7_caseAt 12 = .ok (.if_icmp .lt 7, 3) := by decide +kernel
theorem dX7_caseAt_15 : decode cX7_caseAt 15 = .ok (.aconst_null, 1) := by decide +kernel
theorem dX7_caseAt_16 : decode cX7_caseAt 16 = .ok (.goto 14, 3) := by decide +kernel
theorem dX7_caseAt_19 : decode cX7_caseAt 19 = .ok (.aload_n 0, 1) := by decide +kernel
theorem dX7_caseAt_20 : decode cX7_caseAt 20 = .ok (.getfield 12, 3) := by decide +kernel
theorem dX7_caseAt_23 : decode cX7_caseAt 23 = .ok (.iload_n 1, 1) := by decide +kernel
theorem dX7_caseAt_24 : decode cX7_caseAt 24 = .ok (.invokevirtual 300, 3) := by decide +kernel
theorem dX7_caseAt_27 : decode cX7_caseAt 27 = .ok (.checkcast 134, 3) := by decide +kernel
theorem dX7_caseAt_30 : decode cX7_caseAt 30 = .ok (.areturn, 1) := by decide +kernel
theorem dX7_personAt_0 : decode cX7_personAt 0 = .ok (.iload_n 1, 1) := by decide +kernel
theorem dX7_personAt_1 : decode cX7_personAt 1 = .ok (.ifCond .lt 14, 3) := by decide +kernel
theorem dX7_personAt_4 : decode cX7_personAt 4 = .ok (.iload_n 1, 1) := by decide +kernel
theorem dX7_personAt_5 : decode cX7_personAt 5 = .ok (.aload_n 0, 1) := by decide +kernel
theorem dX7_personAt_6 : decode cX7_personAt 6 = .ok (.getfield 16, 3) := by decide +kernel
theorem dX7_personAt_9 : decode cX7_personAt 9 = .ok (.invokevirtual 80, 3) := by decide +kernel
theorem dX7_personAt_12 : decode cX7_personAt 12 = .ok (.if_icmp .lt 7, 3) := by decide +kernel
theorem dX7_personAt_15 : decode cX7_personAt 15 = .ok (.aconst_null, 1) := by decide +kernel
theorem dX7_personAt_16 : decode cX7_personAt 16 = .ok (.goto 14, 3) := by decide +kernel
theorem dX7_personAt_19 : decode cX7_personAt 19 = .ok (.aload_n 0, 1) := by decide +kernel
theorem dX7_personAt_20 : decode cX7_personAt 20 = .ok (.getfield 16, 3) := by decide +kernel
theorem dX7_personAt_23 : decode cX7_personAt 23 = .ok (.iload_n 1, 1) := by decide +kernel
theorem dX7_personAt_24 : decode cX7_personAt 24 = .ok (.invokevirtual 300, 3) := by decide +kernel
theorem dX7_personAt_27 : decode cX7_personAt 27 = .ok (.checkcast 146, 3) := by decide +kernel
theorem dX7_personAt_30 : decode cX7_personAt 30 = .ok (.areturn, 1) := by decide +kernel
theorem dX7_documentAt_0 : decode cX7_documentAt 0 = .ok (.iload_n 1, 1) := by decide +kernel
theorem dX7_documentAt_1 : decode cX7_documentAt 1 = .ok (.ifCond .lt 14, 3) := by decide +kernel
theorem dX7_documentAt_4 : decode cX7_documentAt 4 = .ok (.iload_n 1, 1) := by decide +kernel
theorem dX7_documentAt_5 : decode cX7_documentAt 5 = .ok (.aload_n 0, 1) := by decide +kernel
theorem dX7_documentAt_6 : decode cX7_documentAt 6 = .ok (.getfield 19, 3) := by decide +kernel
theorem dX7_documentAt_9 : decode cX7_documentAt 9 = .ok (.invokevirtual 80, 3) := by decide +kernel
theorem dX7_documentAt_12 : decode cX7_documentAt 12 = .ok (.if_icmp .lt 7, 3) := by decide +kernel
theorem dX7_documentAt_15 : decode cX7_documentAt 15 = .ok (.aconst_null, 1) := by decide +kernel
theorem dX7_documentAt_16 : decode cX7_documentAt 16 = .ok (.goto 14, 3) := by decide +kernel
theorem dX7_documentAt_19 : decode cX7_documentAt 19 = .ok (.aload_n 0, 1) := by decide +kernel
theorem dX7_documentAt_20 : decode cX7_documentAt 20 = .ok (.getfield 19, 3) := by decide +kernel
theorem dX7_documentAt_23 : decode cX7_documentAt 23 = .ok (.iload_n 1, 1) := by decide +kernel
theorem dX7_documentAt_24 : decode cX7_documentAt 24 = .ok (.invokevirtual 300, 3) := by decide +kernel
theorem dX7_documentAt_27 : decode cX7_documentAt 27 = .ok (.checkcast 95, 3) := by decide +kernel
theorem dX7_documentAt_30 : decode cX7_documentAt 30 = .ok (.areturn, 1) := by decide +kernel
theorem dX7_exhibitAt_0 : decode cX7_exhibitAt 0 = .ok (.iload_n 1, 1) := by decide +kernel
theorem dX7_exhibitAt_1 : decode cX7_exhibitAt 1 = .ok (.ifCond .lt 14, 3) := by decide +kernel
theorem dX7_exhibitAt_4 : decode cX7_exhibitAt 4 = .ok (.iload_n 1, 1) := by decide +kernel
theorem dX7_exhibitAt_5 : decode cX7_exhibitAt 5 = .ok (.aload_n 0, 1) := by decide +kernel
theorem dX7_exhibitAt_6 : decode cX7_exhibitAt 6 = .ok (.getfield 22, 3) := by decide +kernel
theorem dX7_exhibitAt_9 : decode cX7_exhibitAt 9 = .ok (.invokevirtual 80, 3) := by decide +kernel
theorem dX7_exhibitAt_12 : decode cX7_exhibitAt 12 = .ok (.if_icmp .lt 7, 3) := by decide +kernel
theorem dX7_exhibitAt_15 : decode cX7_exhibitAt 15 = .ok (.aconst_null, 1) := by decide +kernel
theorem dX7_exhibitAt_16 : decode cX7_exhibitAt 16 = .ok (.goto 14, 3) := by decide +kernel
theorem dX7_exhibitAt_19 : decode cX7_exhibitAt 19 = .ok (.aload_n 0, 1) := by decide +kernel
theorem dX7_exhibitAt_20 : decode cX7_exhibitAt 20 = .ok (.getfield 22, 3) := by decide +kernel
theorem dX7_exhibitAt_23 : decode cX7_exhibitAt 23 = .ok (.iload_n 1, 1) := by decide +kernel
theorem dX7_exhibitAt_24 : decode cX7_exhibitAt 24 = .ok (.invokevirtual 300, 3) := by decide +kernel
theorem dX7_exhibitAt_27 : decode cX7_exhibitAt 27 = .ok (.checkcast 241, 3) := by decide +kernel
theorem dX7_exhibitAt_30 : decode cX7_exhibitAt 30 = .ok (.areturn, 1) := by decide +kernel
theorem dX7_letterAt_0 : decode cX7_letterAt 0 = .ok (.iload_n 1, 1) := by decide +kernel
theorem dX7_letterAt_1 : decode cX7_letterAt 1 = .ok (.ifCond .lt 14, 3) := by decide +kernel
theorem dX7_letterAt_4 : decode cX7_letterAt 4 = .ok (.iload_n 1, 1) := by decide +kernel
theorem dX7_letterAt_5 : decode cX7_letterAt 5 = .ok (.aload_n 0, 1) := by decide +kernel
theorem dX7_letterAt_6 : decode cX7_letterAt 6 = .ok (.getfield 25, 3) := by decide +kernel
theorem dX7_letterAt_9 : decode cX7_letterAt 9 = .ok (.invokevirtual 80, 3) := by decide +kernel
theorem dX7_letterAt_12 : decode cX7_letterAt 12 = .ok (.if_icmp .lt 7, 3) := by decide +kernel
theorem dX7_letterAt_15 : decode cX7_letterAt 15 = .ok (.aconst_null, 1) := by decide +kernel
theorem dX7_letterAt_16 : decode cX7_letterAt 16 = .ok (.goto 14, 3) := by decide +kernel
theorem dX7_letterAt_19 : decode cX7_letterAt 19 = .ok (.aload_n 0, 1) := by decide +kernel
theorem dX7_letterAt_20 : decode cX7_letterAt 20 = .ok (.getfield 25, 3) := by decide +kernel
theorem dX7_letterAt_23 : decode cX7_letterAt 23 = .ok (.iload_n 1, 1) := by decide +kernel
theorem dX7_letterAt_24 : decode cX7_letterAt 24 = .ok (.invokevirtual 300, 3) := by decide +kernel
theorem dX7_letterAt_27 : decode cX7_letterAt 27 = .ok (.checkcast 312, 3) := by decide +kernel
theorem dX7_letterAt_30 : decode cX7_letterAt 30 = .ok (.areturn, 1) := by decide +kernel
theorem dX7_numberOf_0 : decode cX7_numberOf 0 = .ok (.aload_n 0, 1) := by decide +kernel
theorem dX7_numberOf_1 : decode cX7_numberOf 1 = .ok (.ifnonnull 7, 3) := by decide +kernel
theorem dX7_numberOf_4 : decode cX7_numberOf 4 = .ok (.iconst (-1), 1) := by decide +kernel
theorem dX7_numberOf_5 : decode cX7_numberOf 5 = .ok (.goto 7, 3) := by decide +kernel
theorem dX7_numberOf_8 : decode cX7_numberOf 8 = .ok (.aload_n 0, 1) := by decide +kernel
theorem dX7_numberOf_9 : decode cX7_numberOf 9 = .ok (.getfield 397, 3) := by decide +kernel
theorem dX7_numberOf_12 : decode cX7_numberOf 12 = .ok (.ireturn, 1) := by decide +kernel
theorem dX7_isLevel_0 : decode cX7_isLevel 0 = .ok (.iload_n 0, 1) := by decide +kernel
theorem dX7_isLevel_1 : decode cX7_isLevel 1 = .ok (.ifCond .lt 13, 3) := by decide +kernel
theorem dX7_isLevel_4 : decode cX7_isLevel 4 = .ok (.iload_n 0, 1) := by decide +kernel
theorem dX7_isLevel_5 : decode cX7_isLevel 5 = .ok (.bipush 9, 2) := by decide +kernel
end
section
theorem dX7_isLevel_7 : decode cX7_isLevel 7 = .ok (.if_icmp .gt 7, 3) := by decide +kernel
theorem dX7_isLevel_10 : decode cX7_isLevel 10 = .ok (.iconst 1, 1) := by decide +kernel
theorem dX7_isLevel_11 : decode cX7_isLevel 11 = .ok (.goto 4, 3) := by decide +kernel
theorem dX7_isLevel_14 : decode cX7_isLevel 14 = .ok (.iconst 0, 1) := by decide +kernel
theorem dX7_isLevel_15 : decode cX7_isLevel 15 = .ok (.ireturn, 1) := by decide +kernel
theorem dX7_append_0 : decode cX7_append 0 = .ok (.bipush 24, 2) := by decide +kernel
theorem dX7_append_2 : decode cX7_append 2 = .ok (.istore_n 2, 1) := by decide +kernel
theorem dX7_append_3 : decode cX7_append 3 = .ok (.iload_n 2, 1) := by decide +kernel
theorem dX7_append_4 : decode cX7_append 4 = .ok (.ifCond .lt 54, 3) := by decide +kernel
theorem dX7_append_7 : decode cX7_append 7 = .ok (.aload_n 0, 1) := by decide +kernel
theorem dX7_append_8 : decode cX7_append 8 = .ok (.getfield 32, 3) := by decide +kernel
theorem dX7_append_11 : decode cX7_append 11 = .ok (.ifCond .lt 41, 3) := by decide +kernel
theorem dX7_append_14 : decode cX7_append 14 = .ok (.aload_n 0, 1) := by decide +kernel
theorem dX7_append_15 : decode cX7_append 15 = .ok (.getfield 32, 3) := by decide +kernel
theorem dX7_append_18 : decode cX7_append 18 = .ok (.aload_n 0, 1) := by decide +kernel
theorem dX7_append_19 : decode cX7_append 19 = .ok (.getfield 28, 3) := by decide +kernel
theorem dX7_append_22 : decode cX7_append 22 = .ok (.arraylength, 1) := by decide +kernel
theorem dX7_append_23 : decode cX7_append 23 = .ok (.if_icmp .ge 29, 3) := by decide +kernel
theorem dX7_append_26 : decode cX7_append 26 = .ok (.aload_n 0, 1) := by decide +kernel
theorem dX7_append_27 : decode cX7_append 27 = .ok (.getfield 28, 3) := by decide +kernel
theorem dX7_append_30 : decode cX7_append 30 = .ok (.aload_n 0, 1) := by decide +kernel
theorem dX7_append_31 : decode cX7_append 31 = .ok (.getfield 32, 3) := by decide +kernel
theorem dX7_append_34 : decode cX7_append 34 = .ok (.iload_n 1, 1) := by decide +kernel
theorem dX7_append_35 : decode cX7_append 35 = .ok (.iload_n 2, 1) := by decide +kernel
theorem dX7_append_36 : decode cX7_append 36 = .ok (.iushr, 1) := by decide +kernel
theorem dX7_append_37 : decode cX7_append 37 = .ok (.sipush 255, 3) := by decide +kernel
theorem dX7_append_40 : decode cX7_append 40 = .ok (.iand, 1) := by decide +kernel
theorem dX7_append_41 : decode cX7_append 41 = .ok (.iastore, 1) := by decide +kernel
theorem dX7_append_42 : decode cX7_append 42 = .ok (.aload_n 0, 1) := by decide +kernel
theorem dX7_append_43 : decode cX7_append 43 = .ok (.dup, 1) := by decide +kernel
theorem dX7_append_44 : decode cX7_append 44 = .ok (.getfield 32, 3) := by decide +kernel
theorem dX7_append_47 : decode cX7_append 47 = .ok (.iconst 1, 1) := by decide +kernel
theorem dX7_append_48 : decode cX7_append 48 = .ok (.iadd, 1) := by decide +kernel
theorem dX7_append_49 : decode cX7_append 49 = .ok (.putfield 32, 3) := by decide +kernel
theorem dX7_append_52 : decode cX7_append 52 = .ok (.iinc 2 (-8), 3) := by decide +kernel
theorem dX7_append_55 : decode cX7_append 55 = .ok (.goto (-52), 3) := by decide +kernel
theorem dX7_append_58 : decode cX7_append 58 = .ok (.return_, 1) := by decide +kernel
theorem dX7_writePaper_0 : decode cX7_writePaper 0 = .ok (.aload_n 0, 1) := by decide +kernel
theorem dX7_writePaper_1 : decode cX7_writePaper 1 = .ok (.aload_n 1, 1) := by decide +kernel
theorem dX7_writePaper_2 : decode cX7_writePaper 2 = .ok (.getfield 202, 3) := by decide +kernel
theorem dX7_writePaper_5 : decode cX7_writePaper 5 = .ok (.arraylength, 1) := by decide +kernel
theorem dX7_writePaper_6 : decode cX7_writePaper 6 = .ok (.aload_n 0, 1) := by decide +kernel
theorem dX7_writePaper_7 : decode cX7_writePaper 7 = .ok (.getfield 36, 3) := by decide +kernel
theorem dX7_writePaper_10 : decode cX7_writePaper 10 = .ok (.arraylength, 1) := by decide +kernel
theorem dX7_writePaper_11 : decode cX7_writePaper 11 = .ok (.invokestatic 398, 3) := by decide +kernel
theorem dX7_writePaper_14 : decode cX7_writePaper 14 = .ok (.putfield 39, 3) := by decide +kernel
theorem dX7_writePaper_17 : decode cX7_writePaper 17 = .ok (.iconst 0, 1) := by decide +kernel
theorem dX7_writePaper_18 : decode cX7_writePaper 18 = .ok (.istore_n 3, 1) := by decide +kernel
theorem dX7_writePaper_19 : decode cX7_writePaper 19 = .ok (.iload_n 3, 1) := by decide +kernel
theorem dX7_writePaper_20 : decode cX7_writePaper 20 = .ok (.aload_n 0, 1) := by decide +kernel
theorem dX7_writePaper_21 : decode cX7_writePaper 21 = .ok (.getfield 39, 3) := by decide +kernel
theorem dX7_writePaper_24 : decode cX7_writePaper 24 = .ok (.if_icmp .ge 21, 3) := by decide +kernel
theorem dX7_writePaper_27 : decode cX7_writePaper 27 = .ok (.aload_n 0, 1) := by decide +kernel
theorem dX7_writePaper_28 : decode cX7_writePaper 28 = .ok (.getfield 36, 3) := by decide +kernel
theorem dX7_writePaper_31 : decode cX7_writePaper 31 = .ok (.iload_n 3, 1) := by decide +kernel
theorem dX7_writePaper_32 : decode cX7_writePaper 32 = .ok (.aload_n 1, 1) := by decide +kernel
theorem dX7_writePaper_33 : decode cX7_writePaper 33 = .ok (.iload_n 3, 1) := by decide +kernel
theorem dX7_writePaper_34 : decode cX7_writePaper 34 = .ok (.iload_n 2, 1) := by decide +kernel
theorem dX7_writePaper_35 : decode cX7_writePaper 35 = .ok (.invokevirtual 206, 3) := by decide +kernel
theorem dX7_writePaper_38 : decode cX7_writePaper 38 = .ok (.iastore, 1) := by decide +kernel
theorem dX7_writePaper_39 : decode cX7_writePaper 39 = .ok (.iinc 3 1, 3) := by decide +kernel
theorem dX7_writePaper_42 : decode cX7_writePaper 42 = .ok (.goto (-23), 3) := by decide +kernel
theorem dX7_writePaper_45 : decode cX7_writePaper 45 = .ok (.return_, 1) := by decide +kernel
theorem dX7_isTapeSeen_0 : decode cX7_isTapeSeen 0 = .ok (.iconst 0, 1) := by decide +kernel
theorem dX7_isTapeSeen_1 : decode cX7_isTapeSeen 1 = .ok (.istore 4, 2) := by decide +kernel
theorem dX7_isTapeSeen_3 : decode cX7_isTapeSeen 3 = .ok (.iload 4, 2) := by decide +kernel
theorem dX7_isTapeSeen_5 : decode cX7_isTapeSeen 5 = .ok (.aload_n 0, 1) := by decide +kernel
theorem dX7_isTapeSeen_6 : decode cX7_isTapeSeen 6 = .ok (.getfield 32, 3) := by decide +kernel
theorem dX7_isTapeSeen_9 : decode cX7_isTapeSeen 9 = .ok (.if_icmp .ge 40, 3) := by decide +kernel
theorem dX7_isTapeSeen_12 : decode cX7_isTapeSeen 12 = .ok (.iload 4, 2) := by decide +kernel
theorem dX7_isTapeSeen_14 : decode cX7_isTapeSeen 14 = .ok (.aload_n 0, 1) := by decide +kernel
theorem dX7_isTapeSeen_15 : decode cX7_isTapeSeen 15 = .ok (.getfield 28, 3) := by decide +kernel
theorem dX7_isTapeSeen_18 : decode cX7_isTapeSeen 18 = .ok (.arraylength, 1) := by decide +kernel
theorem dX7_isTapeSeen_19 : decode cX7_isTapeSeen 19 = .ok (.if_icmp .ge 30, 3) := by decide +kernel
theorem dX7_isTapeSeen_22 : decode cX7_isTapeSeen 22 = .ok (.aload_n 1, 1) := by decide +kernel
theorem dX7_isTapeSeen_23 : decode cX7_isTapeSeen 23 = .ok (.iload_n 2, 1) := by decide +kernel
theorem dX7_isTapeSeen_24 : decode cX7_isTapeSeen 24 = .ok (.iload 4, 2) := by decide +kernel
theorem dX7_isTapeSeen_26 : decode cX7_isTapeSeen 26 = .ok (.iadd, 1) := by decide +kernel
theorem dX7_isTapeSeen_27 : decode cX7_isTapeSeen 27 = .ok (.iload_n 3, 1) := by decide +kernel
theorem dX7_isTapeSeen_28 : decode cX7_isTapeSeen 28 = .ok (.invokevirtual 206, 3) := by decide +kernel
theorem dX7_isTapeSeen_31 : decode cX7_isTapeSeen 31 = .ok (.aload_n 0, 1) := by decide +kernel
theorem dX7_isTapeSeen_32 : decode cX7_isTapeSeen 32 = .ok (.getfield 28, 3) := by decide +kernel
theorem dX7_isTapeSeen_35 : decode cX7_isTapeSeen 35 = .ok (.iload 4, 2) := by decide +kernel
theorem dX7_isTapeSeen_37 : decode cX7_isTapeSeen 37 = .ok (.iaload, 1) := by decide +kernel
theorem dX7_isTapeSeen_38 : decode cX7_isTapeSeen 38 = .ok (.if_icmp .eq 5, 3) := by decide +kernel
theorem dX7_isTapeSeen_41 : decode cX7_isTapeSeen 41 = .ok (.iconst 0, 1) := by decide +kernel
theorem dX7_isTapeSeen_42 : decode cX7_isTapeSeen 42 = .ok (.ireturn, 1) := by decide +kernel
theorem dX7_isTapeSeen_43 : decode cX7_isTapeSeen 43 = .ok (.iinc 4 1, 3) := by decide +kernel
theorem dX7_isTapeSeen_46 : decode cX7_isTapeSeen 46 = .ok (.goto (-43), 3) := by decide +kernel
theorem dX7_isTapeSeen_49 : decode cX7_isTapeSeen 49 = .ok (.iconst 1, 1) := by decide +kernel
theorem dX7_isTapeSeen_50 : decode cX7_isTapeSeen 50 = .ok (.ireturn, 1) := by decide +kernel
theorem dX7_hiddenBytes_0 : decode cX7_hiddenBytes 0 = .ok (.aload_n 1, 1) := by decide +kernel
theorem dX7_hiddenBytes_1 : decode cX7_hiddenBytes 1 = .ok (.iconst 0, 1) := by decide +kernel
theorem dX7_hiddenBytes_2 : decode cX7_hiddenBytes 2 = .ok (.aload_n 1, 1) := by decide +kernel
theorem dX7_hiddenBytes_3 : decode cX7_hiddenBytes 3 = .ok (.getfield 202, 3) := by decide +kernel
theorem dX7_hiddenBytes_6 : decode cX7_hiddenBytes 6 = .ok (.arraylength, 1) := by decide +kernel
theorem dX7_hiddenBytes_7 : decode cX7_hiddenBytes 7 = .ok (.aload_n 0, 1) := by decide +kernel
theorem dX7_hiddenBytes_8 : decode cX7_hiddenBytes 8 = .ok (.aload_n 1, 1) := by decide +kernel
theorem dX7_hiddenBytes_9 : decode cX7_hiddenBytes 9 = .ok (.getfield 181, 3) := by decide +kernel
theorem dX7_hiddenBytes_12 : decode cX7_hiddenBytes 12 = .ok (.invokevirtual 185, 3) := by decide +kernel
theorem dX7_hiddenBytes_15 : decode cX7_hiddenBytes 15 = .ok (.invokevirtual 216, 3) := by decide +kernel
theorem dX7_hiddenBytes_18 : decode cX7_hiddenBytes 18 = .ok (.ireturn, 1) := by decide +kernel
theorem dX7_bytesSeenBy_0 : decode cX7_bytesSeenBy 0 = .ok (.iconst 0, 1) := by decide +kernel
theorem dX7_bytesSeenBy_1 : decode cX7_bytesSeenBy 1 = .ok (.istore_n 3, 1) := by decide +kernel
theorem dX7_bytesSeenBy_2 : decode cX7_bytesSeenBy 2 = .ok (.iconst 0, 1) := by decide +kernel
theorem dX7_bytesSeenBy_3 : decode cX7_bytesSeenBy 3 = .ok (.istore 4, 2) := by decide +kernel
theorem dX7_bytesSeenBy_5 : decode cX7_bytesSeenBy 5 = .ok (.iload 4, 2) := by decide +kernel
theorem dX7_bytesSeenBy_7 : decode cX7_bytesSeenBy 7 = .ok (.aload_n 0, 1) := by decide +kernel
theorem dX7_bytesSeenBy_8 : decode cX7_bytesSeenBy 8 = .ok (.getfield 19, 3) := by decide +kernel
theorem dX7_bytesSeenBy_11 : decode cX7_bytesSeenBy 11 = .ok (.invokevirtual 80, 3) := by decide +kernel
theorem dX7_bytesSeenBy_14 : decode cX7_bytesSeenBy 14 = .ok (.if_icmp .ge 48, 3) := by decide +kernel
theorem dX7_bytesSeenBy_17 : decode cX7_bytesSeenBy 17 = .ok (.aload_n 0, 1) := by decide +kernel
theorem dX7_bytesSeenBy_18 : decode cX7_bytesSeenBy 18 = .ok (.getfield 19, 3) := by decide +kernel
theorem dX7_bytesSeenBy_21 : decode cX7_bytesSeenBy 21 = .ok (.iload 4, 2) := by decide +kernel
theorem dX7_bytesSeenBy_23 : decode cX7_bytesSeenBy 23 = .ok (.invokevirtual 300, 3) := by decide +kernel
theorem dX7_bytesSeenBy_26 : decode cX7_bytesSeenBy 26 = .ok (.checkcast 95, 3) := by decide +kernel
theorem dX7_bytesSeenBy_29 : decode cX7_bytesSeenBy 29 = .ok (.astore 5, 2) := by decide +kernel
theorem dX7_bytesSeenBy_31 : decode cX7_bytesSeenBy 31 = .ok (.aload 5, 2) := by decide +kernel
theorem dX7_bytesSeenBy_33 : decode cX7_bytesSeenBy 33 = .ok (.getfield 181, 3) := by decide +kernel
theorem dX7_bytesSeenBy_36 : decode cX7_bytesSeenBy 36 = .ok (.aload_n 2, 1) := by decide +kernel
theorem dX7_bytesSeenBy_37 : decode cX7_bytesSeenBy 37 = .ok (.if_acmp .ne 19, 3) := by decide +kernel
theorem dX7_bytesSeenBy_40 : decode cX7_bytesSeenBy 40 = .ok (.iload_n 3, 1) := by decide +kernel
theorem dX7_bytesSeenBy_41 : decode cX7_bytesSeenBy 41 = .ok (.aload 5, 2) := by decide +kernel
theorem dX7_bytesSeenBy_43 : decode cX7_bytesSeenBy 43 = .ok (.getfield 202, 3) := by decide +kernel
theorem dX7_bytesSeenBy_46 : decode cX7_bytesSeenBy 46 = .ok (.arraylength, 1) := by decide +kernel
theorem dX7_bytesSeenBy_47 : decode cX7_bytesSeenBy 47 = .ok (.aload_n 1, 1) := by decide +kernel
theorem dX7_bytesSeenBy_48 : decode cX7_bytesSeenBy 48 = .ok (.aload 5, 2) := by decide +kernel
theorem dX7_bytesSeenBy_50 : decode cX7_bytesSeenBy 50 = .ok (.invokestatic 198, 3) := by decide +kernel
theorem dX7_bytesSeenBy_53 : decode cX7_bytesSeenBy 53 = .ok (.isub, 1) := by decide +kernel
theorem dX7_bytesSeenBy_54 : decode cX7_bytesSeenBy 54 = .ok (.iadd, 1) := by decide +kernel
theorem dX7_bytesSeenBy_55 : decode cX7_bytesSeenBy 55 = .ok (.istore_n 3, 1) := by decide +kernel
theorem dX7_bytesSeenBy_56 : decode cX7_bytesSeenBy 56 = .ok (.iinc 4 1, 3) := by decide +kernel
theorem dX7_bytesSeenBy_59 : decode cX7_bytesSeenBy 59 = .ok (.goto (-54), 3) := by decide +kernel
theorem dX7_bytesSeenBy_62 : decode cX7_bytesSeenBy 62 = .ok (.iload_n 3, 1) := by decide +kernel
theorem dX7_bytesSeenBy_63 : decode cX7_bytesSeenBy 63 = .ok (.ireturn, 1) := by decide +kernel
theorem dX7_exhibitsOf_0 : decode cX7_exhibitsOf 0 = .ok (.iconst 0, 1) := by decide +kernel
theorem dX7_exhibitsOf_1 : decode cX7_exhibitsOf 1 = .ok (.istore_n 2, 1) := by decide +kernel
theorem dX7_exhibitsOf_2 : decode cX7_exhibitsOf 2 = .ok (.iconst 0, 1) := by decide +kernel
theorem dX7_exhibitsOf_3 : decode cX7_exhibitsOf 3 = .ok (.istore_n 3, 1) := by decide +kernel
theorem dX7_exhibitsOf_4 : decode cX7_exhibitsOf 4 = .ok (.iload_n 3, 1) := by decide +kernel
theorem dX7_exhibitsOf_5 : decode cX7_exhibitsOf 5 = .ok (.aload_n 0, 1) := by decide +kernel
theorem dX7_exhibitsOf_6 : decode cX7_exhibitsOf 6 = .ok (.getfield 22, 3) := by decide +kernel
theorem dX7_exhibitsOf_9 : decode cX7_exhibitsOf 9 = .ok (.invokevirtual 80, 3) := by decide +kernel
theorem dX7_exhibitsOf_12 : decode cX7_exhibitsOf 12 = .ok (.if_icmp .ge 33, 3) := by decide +kernel
theorem dX7_exhibitsOf_15 : decode cX7_exhibitsOf 15 = .ok (.aload_n 0, 1) := by decide +kernel
theorem dX7_exhibitsOf_16 : decode cX7_exhibitsOf 16 = .ok (.getfield 22, 3) := by decide +kernel
theorem dX7_exhibitsOf_19 : decode cX7_exhibitsOf 19 = .ok (.iload_n 3, 1) := by decide +kernel
theorem dX7_exhibitsOf_20 : decode cX7_exhibitsOf 20 = .ok (.invokevirtual 300, 3) := by decide +kernel
theorem dX7_exhibitsOf_23 : decode cX7_exhibitsOf 23 = .ok (.checkcast 241, 3) := by decide +kernel
theorem dX7_exhibitsOf_26 : decode cX7_exhibitsOf 26 = .ok (.getfield 263, 3) := by decide +kernel
theorem dX7_exhibitsOf_29 : decode cX7_exhibitsOf 29 = .ok (.aload_n 1, 1) := by decide +kernel
theorem dX7_exhibitsOf_30 : decode cX7_exhibitsOf 30 = .ok (.if_acmp .ne 9, 3) := by decide +kernel
theorem dX7_exhibitsOf_33 : decode cX7_exhibitsOf 33 = .ok (.iload_n 2, 1) := by decide +kernel
theorem dX7_exhibitsOf_34 : decode cX7_exhibitsOf 34 = .ok (.iconst 1, 1) := by decide +kernel
theorem dX7_exhibitsOf_35 : decode cX7_exhibitsOf 35 = .ok (.iload_n 3, 1) := by decide +kernel
theorem dX7_exhibitsOf_36 : decode cX7_exhibitsOf 36 = .ok (.ishl, 1) := by decide +kernel
theorem dX7_exhibitsOf_37 : decode cX7_exhibitsOf 37 = .ok (.ior, 1) := by decide +kernel
theorem dX7_exhibitsOf_38 : decode cX7_exhibitsOf 38 = .ok (.istore_n 2, 1) := by decide +kernel
theorem dX7_exhibitsOf_39 : decode cX7_exhibitsOf 39 = .ok (.iinc 3 1, 3) := by decide +kernel
theorem dX7_exhibitsOf_42 : decode cX7_exhibitsOf 42 = .ok (.goto (-38), 3) := by decide +kernel
theorem dX7_exhibitsOf_45 : decode cX7_exhibitsOf 45 = .ok (.iload_n 2, 1) := by decide +kernel
theorem dX7_exhibitsOf_46 : decode cX7_exhibitsOf 46 = .ok (.ireturn, 1) := by decide +kernel
theorem dX7_carryOutLetters_0 : decode cX7_carryOutLetters 0 = .ok (.iconst 0, 1) := by decide +kernel
theorem dX7_carryOutLetters_1 : decode cX7_carryOutLetters 1 = .ok (.istore_n 1, 1) := by decide +kernel
theorem dX7_carryOutLetters_2 : decode cX7_carryOutLetters 2 = .ok (.aload_n 0, 1) := by decide +kernel
theorem dX7_carryOutLetters_3 : decode cX7_carryOutLetters 3 = .ok (.invokevirtual 340, 3) := by decide +kernel
theorem dX7_carryOutLetters_6 : decode cX7_carryOutLetters 6 = .ok (.istore_n 2, 1) := by decide +kernel
theorem dX7_carryOutLetters_7 : decode cX7_carryOutLetters 7 = .ok (.iconst 0, 1) := by decide +kernel
theorem dX7_carryOutLetters_8 : decode cX7_carryOutLetters 8 = .ok (.istore_n 3, 1) := by decide +kernel
theorem dX7_carryOutLetters_9 : decode cX7_carryOutLetters 9 = .ok (.iload_n 3, 1) := by decide +kernel
theorem dX7_carryOutLetters_10 : decode cX7_carryOutLetters 10 = .ok (.iload_n 2, 1) := by decide +kernel
theorem dX7_carryOutLetters_11 : decode cX7_carryOutLetters 11 = .ok (.if_icmp .ge 40, 3) := by decide +kernel
theorem dX7_carryOutLetters_14 : decode cX7_carryOutLetters 14 = .ok (.aload_n 0, 1) := by decide +kernel
theorem dX7_carryOutLetters_15 : decode cX7_carryOutLetters 15 = .ok (.invokevirtual 403, 3) := by decide +kernel
theorem dX7_carryOutLetters_18 : decode cX7_carryOutLetters 18 = .ok (.astore 4, 2) := by decide +kernel
theorem dX7_carryOutLetters_20 : decode cX7_carryOutLetters 20 = .ok (.aload 4, 2) := by decide +kernel
theorem dX7_carryOutLetters_22 : decode cX7_carryOutLetters 22 = .ok (.ifnonnull 5, 3) := by decide +kernel
theorem dX7_carryOutLetters_25 : decode cX7_carryOutLetters 25 = .ok (.iload_n 1, 1) := by decide +kernel
theorem dX7_carryOutLetters_26 : decode cX7_carryOutLetters 26 = .ok (.ireturn, 1) := by decide +kernel
theorem dX7_carryOutLetters_27 : decode cX7_carryOutLetters 27 = .ok (.aload_n 0, 1) := by decide +kernel
theorem dX7_carryOutLetters_28 : decode cX7_carryOutLetters 28 = .ok (.aload 4, 2) := by decide +kernel
theorem dX7_carryOutLetters_30 : decode cX7_carryOutLetters 30 = .ok (.invokevirtual 407, 3) := by decide +kernel
theorem dX7_carryOutLetters_33 : decode cX7_carryOutLetters 33 = .ok (.aload 4, 2) := by decide +kernel
theorem dX7_carryOutLetters_35 : decode cX7_carryOutLetters 35 = .ok (.getfield 337, 3) := by decide +kernel
theorem dX7_carryOutLetters_38 : decode cX7_carryOutLetters 38 = .ok (.iconst 1, 1) := by decide +kernel
theorem dX7_carryOutLetters_39 : decode cX7_carryOutLetters 39 = .ok (.if_icmp .ne 6, 3) := by decide +kernel
theorem dX7_carryOutLetters_42 : decode cX7_carryOutLetters 42 = .ok (.iinc 1 1, 3) := by decide +kernel
theorem dX7_carryOutLetters_45 : decode cX7_carryOutLetters 45 = .ok (.iinc 3 1, 3) := by decide +kernel
theorem dX7_carryOutLetters_48 : decode cX7_carryOutLetters 48 = .ok (.goto (-39), 3) := by decide +kernel
theorem dX7_carryOutLetters_51 : decode cX7_carryOutLetters 51 = .ok (.iload_n 1, 1) := by decide +kernel
theorem dX7_carryOutLetters_52 : decode cX7_carryOutLetters 52 = .ok (.ireturn, 1) := by decide +kernel
theorem dX7_lettersOfADay_0 : decode cX7_lettersOfADay 0 = .ok (.iconst 0, 1) := by decide +kernel
theorem dX7_lettersOfADay_1 : decode cX7_lettersOfADay 1 = .ok (.istore_n 1, 1) := by decide +kernel
theorem dX7_lettersOfADay_2 : decode cX7_lettersOfADay 2 = .ok (.iconst 0, 1) := by decide +kernel
theorem dX7_lettersOfADay_3 : decode cX7_lettersOfADay 3 = .ok (.istore_n 2, 1) := by decide +kernel
theorem dX7_lettersOfADay_4 : decode cX7_lettersOfADay 4 = .ok (.iload_n 2, 1) := by decide +kernel
theorem dX7_lettersOfADay_5 : decode cX7_lettersOfADay 5 = .ok (.aload_n 0, 1) := by decide +kernel
theorem dX7_lettersOfADay_6 : decode cX7_lettersOfADay 6 = .ok (.getfield 16, 3) := by decide +kernel
theorem dX7_lettersOfADay_9 : decode cX7_lettersOfADay 9 = .ok (.invokevirtual 80, 3) := by decide +kernel
theorem dX7_lettersOfADay_12 : decode cX7_lettersOfADay 12 = .ok (.if_icmp .ge 29, 3) := by decide +kernel
theorem dX7_lettersOfADay_15 : decode cX7_lettersOfADay 15 = .ok (.aload_n 0, 1) := by decide +kernel
theorem dX7_lettersOfADay_16 : decode cX7_lettersOfADay 16 = .ok (.getfield 16, 3) := by decide +kernel
theorem dX7_lettersOfADay_19 : decode cX7_lettersOfADay 19 = .ok (.iload_n 2, 1) := by decide +kernel
theorem dX7_lettersOfADay_20 : decode cX7_lettersOfADay 20 = .ok (.invokevirtual 300, 3) := by decide +kernel
theorem dX7_lettersOfADay_23 : decode cX7_lettersOfADay 23 = .ok (.checkcast 146, 3) := by decide +kernel
theorem dX7_lettersOfADay_26 : decode cX7_lettersOfADay 26 = .ok (.getfield 367, 3) := by decide +kernel
theorem dX7_lettersOfADay_29 : decode cX7_lettersOfADay 29 = .ok (.ifCond .ne 6, 3) := by decide +kernel
theorem dX7_lettersOfADay_32 : decode cX7_lettersOfADay 32 = .ok (.iinc 1 1, 3) := by decide +kernel
theorem dX7_lettersOfADay_35 : decode cX7_lettersOfADay 35 = .ok (.iinc 2 1, 3) := by decide +kernel
theorem dX7_lettersOfADay_38 : decode cX7_lettersOfADay 38 = .ok (.goto (-34), 3) := by decide +kernel
theorem dX7_lettersOfADay_41 : decode cX7_lettersOfADay 41 = .ok (.iconst 3, 1) := by decide +kernel
theorem dX7_lettersOfADay_42 : decode cX7_lettersOfADay 42 = .ok (.iload_n 1, 1) := by decide +kernel
theorem dX7_lettersOfADay_43 : decode cX7_lettersOfADay 43 = .ok (.imul, 1) := by decide +kernel
theorem dX7_lettersOfADay_44 : decode cX7_lettersOfADay 44 = .ok (.ireturn, 1) := by decide +kernel
theorem dX7_nextLetter_0 : decode cX7_nextLetter 0 = .ok (.aconst_null, 1) := by decide +kernel
theorem dX7_nextLetter_1 : decode cX7_nextLetter 1 = .ok (.astore_n 1, 1) := by decide +kernel
theorem dX7_nextLetter_2 : decode cX7_nextLetter 2 = .ok (.iconst 0, 1) := by decide +kernel
theorem dX7_nextLetter_3 : decode cX7_nextLetter 3 = .ok (.istore_n 2, 1) := by decide +kernel
theorem dX7_nextLetter_4 : decode cX7_nextLetter 4 = .ok (.iload_n 2, 1) := by decide +kernel
theorem dX7_nextLetter_5 : decode cX7_nextLetter 5 = .ok (.aload_n 0, 1) := by decide +kernel
theorem dX7_nextLetter_6 : decode cX7_nextLetter 6 = .ok (.getfield 25, 3) := by decide +kernel
theorem dX7_nextLetter_9 : decode cX7_nextLetter 9 = .ok (.invokevirtual 80, 3) := by decide +kernel
theorem dX7_nextLetter_12 : decode cX7_nextLetter 12 = .ok (.if_icmp .ge 45, 3) := by decide +kernel
theorem dX7_nextLetter_15 : decode cX7_nextLetter 15 = .ok (.aload_n 0, 1) := by decide +kernel
theorem dX7_nextLetter_16 : decode cX7_nextLetter 16 = .ok (.getfield 25, 3) := by decide +kernel
theorem dX7_nextLetter_19 : decode cX7_nextLetter 19 = .ok (.iload_n 2, 1) := by decide +kernel
theorem dX7_nextLetter_20 : decode cX7_nextLetter 20 = .ok (.invokevirtual 300, 3) := by decide +kernel
theorem dX7_nextLetter_23 : decode cX7_nextLetter 23 = .ok (.checkcast 312, 3) := by decide +kernel
theorem dX7_nextLetter_26 : decode cX7_nextLetter 26 = .ok (.astore_n 3, 1) := by decide +kernel
theorem dX7_nextLetter_27 : decode cX7_nextLetter 27 = .ok (.aload_n 3, 1) := by decide +kernel
theorem dX7_nextLetter_28 : decode cX7_nextLetter 28 = .ok (.getfield 337, 3) := by decide +kernel
theorem dX7_nextLetter_31 : decode cX7_nextLetter 31 = .ok (.ifCond .ne 20, 3) := by decide +kernel
theorem dX7_nextLetter_34 : decode cX7_nextLetter 34 = .ok (.aload_n 1, 1) := by decide +kernel
theorem dX7_nextLetter_35 : decode cX7_nextLetter 35 = .ok (.ifnull 14, 3) := by decide +kernel
theorem dX7_nextLetter_38 : decode cX7_nextLetter 38 = .ok (.aload_n 3, 1) := by decide +kernel
theorem dX7_nextLetter_39 : decode cX7_nextLetter 39 = .ok (.getfield 411, 3) := by decide +kernel
theorem dX7_nextLetter_42 : decode cX7_nextLetter 42 = .ok (.aload_n 1, 1) := by decide +kernel
theorem dX7_nextLetter_43 : decode cX7_nextLetter 43 = .ok (.getfield 411, 3) := by decide +kernel
theorem dX7_nextLetter_46 : decode cX7_nextLetter 46 = .ok (.if_icmp .ge 5, 3) := by decide +kernel
theorem dX7_nextLetter_49 : decode cX7_nextLetter 49 = .ok (.aload_n 3, 1) := by decide +kernel
theorem dX7_nextLetter_50 : decode cX7_nextLetter 50 = .ok (.astore_n 1, 1) := by decide +kernel
theorem dX7_nextLetter_51 : decode cX7_nextLetter 51 = .ok (.iinc 2 1, 3) := by decide +kernel
theorem dX7_nextLetter_54 : decode cX7_nextLetter 54 = .ok (.goto (-50), 3) := by decide +kernel
theorem dX7_nextLetter_57 : decode cX7_nextLetter 57 = .ok (.aload_n 1, 1) := by decide +kernel
theorem dX7_nextLetter_58 : decode cX7_nextLetter 58 = .ok (.areturn, 1) := by decide +kernel
theorem dX7_carryOut_0 : decode cX7_carryOut 0 = .ok (.aload_n 1, 1) := by decide +kernel
theorem dX7_carryOut_1 : decode cX7_carryOut 1 = .ok (.aload_n 0, 1) := by decide +kernel
theorem dX7_carryOut_2 : decode cX7_carryOut 2 = .ok (.getfield 52, 3) := by decide +kernel
theorem dX7_carryOut_5 : decode cX7_carryOut 5 = .ok (.putfield 414, 3) := by decide +kernel
theorem dX7_carryOut_8 : decode cX7_carryOut 8 = .ok (.aload_n 1, 1) := by decide +kernel
theorem dX7_carryOut_9 : decode cX7_carryOut 9 = .ok (.getfield 351, 3) := by decide +kernel
theorem dX7_carryOut_12 : decode cX7_carryOut 12 = .ok (.aload_n 1, 1) := by decide +kernel
theorem dX7_carryOut_13 : decode cX7_carryOut 13 = .ok (.getfield 347, 3) := by decide +kernel
theorem dX7_carryOut_16 : decode cX7_carryOut 16 = .ok (.getfield 181, 3) := by decide +kernel
theorem dX7_carryOut_19 : decode cX7_carryOut 19 = .ok (.invokevirtual 264, 3) := by decide +kernel
theorem dX7_carryOut_22 : decode cX7_carryOut 22 = .ok (.ifCond .eq 22, 3) := by decide +kernel
theorem dX7_carryOut_25 : decode cX7_carryOut 25 = .ok (.aload_n 1, 1) := by decide +kernel
theorem dX7_carryOut_26 : decode cX7_carryOut 26 = .ok (.iconst 1, 1) := by decide +kernel
theorem dX7_carryOut_27 : decode cX7_carryOut 27 = .ok (.putfield 337, 3) := by decide +kernel
theorem dX7_carryOut_30 : decode cX7_carryOut 30 = .ok (.aload_n 1, 1) := by decide +kernel
theorem dX7_carryOut_31 : decode cX7_carryOut 31 = .ok (.getfield 347, 3) := by decide +kernel
theorem dX7_carryOut_34 : decode cX7_carryOut 34 = .ok (.aload_n 1, 1) := by decide +kernel
theorem dX7_carryOut_35 : decode cX7_carryOut 35 = .ok (.getfield 351, 3) := by decide +kernel
theorem dX7_carryOut_38 : decode cX7_carryOut 38 = .ok (.invokevirtual 192, 3) := by decide +kernel
theorem dX7_carryOut_41 : decode cX7_carryOut 41 = .ok (.goto 8, 3) := by decide +kernel
theorem dX7_carryOut_44 : decode cX7_carryOut 44 = .ok (.aload_n 1, 1) := by decide +kernel
theorem dX7_carryOut_45 : decode cX7_carryOut 45 = .ok (.iconst 2, 1) := by decide +kernel
theorem dX7_carryOut_46 : decode cX7_carryOut 46 = .ok (.putfield 337, 3) := by decide +kernel
theorem dX7_carryOut_49 : decode cX7_carryOut 49 = .ok (.return_, 1) := by decide +kernel
theorem dX7_callBackOriginals_0 : decode cX7_callBackOriginals 0 = .ok (.iconst 0, 1) := by decide +kernel
theorem dX7_callBackOriginals_1 : decode cX7_callBackOriginals 1 = .ok (.istore_n 1, 1) := by decide +kernel
theorem dX7_callBackOriginals_2 : decode cX7_callBackOriginals 2 = .ok (.iload_n 1, 1) := by decide +kernel
theorem dX7_callBackOriginals_3 : decode cX7_callBackOriginals 3 = .ok (.aload_n 0, 1) := by decide +kernel
theorem dX7_callBackOriginals_4 : decode cX7_callBackOriginals 4 = .ok (.getfield 19, 3) := by decide +kernel
theorem dX7_callBackOriginals_7 : decode cX7_callBackOriginals 7 = .ok (.invokevirtual 80, 3) := by decide +kernel
theorem dX7_callBackOriginals_10 : decode cX7_callBackOriginals 10 = .ok (.if_icmp .ge 50, 3) := by decide +kernel
theorem dX7_callBackOriginals_13 : decode cX7_callBackOriginals 13 = .ok (.aload_n 0, 1) := by decide +kernel
theorem dX7_callBackOriginals_14 : decode cX7_callBackOriginals 14 = .ok (.getfield 19, 3) := by decide +kernel
theorem dX7_callBackOriginals_17 : decode cX7_callBackOriginals 17 = .ok (.iload_n 1, 1) := by decide +kernel
theorem dX7_callBackOriginals_18 : decode cX7_callBackOriginals 18 = .ok (.invokevirtual 300, 3) := by decide +kernel
theorem dX7_callBackOriginals_21 : decode cX7_callBackOriginals 21 = .ok (.checkcast 95, 3) := by decide +kernel
theorem dX7_callBackOriginals_24 : decode cX7_callBackOriginals 24 = .ok (.astore_n 2, 1) := by decide +kernel
theorem dX7_callBackOriginals_25 : decode cX7_callBackOriginals 25 = .ok (.aload_n 2, 1) := by decide +kernel
theorem dX7_callBackOriginals_26 : decode cX7_callBackOriginals 26 = .ok (.getfield 223, 3) := by decide +kernel
theorem dX7_callBackOriginals_29 : decode cX7_callBackOriginals 29 = .ok (.ifnull 25, 3) := by decide +kernel
theorem dX7_callBackOriginals_32 : decode cX7_callBackOriginals 32 = .ok (.aload_n 2, 1) := by decide +kernel
theorem dX7_callBackOriginals_33 : decode cX7_callBackOriginals 33 = .ok (.getfield 229, 3) := by decide +kernel
theorem dX7_callBackOriginals_36 : decode cX7_callBackOriginals 36 = .ok (.aload_n 0, 1) := by decide +kernel
theorem dX7_callBackOriginals_37 : decode cX7_callBackOriginals 37 = .ok (.getfield 52, 3) := by decide +kernel
theorem dX7_callBackOriginals_40 : decode cX7_callBackOriginals 40 = .ok (.if_icmp .ge 14, 3) := by decide +kernel
theorem dX7_callBackOriginals_43 : decode cX7_callBackOriginals 43 = .ok (.aload_n 2, 1) := by decide +kernel
theorem dX7_callBackOriginals_44 : decode cX7_callBackOriginals 44 = .ok (.getfield 223, 3) := by decide +kernel
theorem dX7_callBackOriginals_47 : decode cX7_callBackOriginals 47 = .ok (.invokevirtual 417, 3) := by decide +kernel
theorem dX7_callBackOriginals_50 : decode cX7_callBackOriginals 50 = .ok (.aload_n 2, 1) := by decide +kernel
theorem dX7_callBackOriginals_51 : decode cX7_callBackOriginals 51 = .ok (.invokevirtual 236, 3) := by decide +kernel
theorem dX7_callBackOriginals_54 : decode cX7_callBackOriginals 54 = .ok (.iinc 1 1, 3) := by decide +kernel
theorem dX7_callBackOriginals_57 : decode cX7_callBackOriginals 57 = .ok (.goto (-55), 3) := by decide +kernel
theorem dX7_callBackOriginals_60 : decode cX7_callBackOriginals 60 = .ok (.return_, 1) := by decide +kernel
theorem dX7_lettersAhead_0 : decode cX7_lettersAhead 0 = .ok (.iconst 0, 1) := by decide +kernel
theorem dX7_lettersAhead_1 : decode cX7_lettersAhead 1 = .ok (.istore_n 3, 1) := by decide +kernel
theorem dX7_lettersAhead_2 : decode cX7_lettersAhead 2 = .ok (.iconst 0, 1) := by decide +kernel
theorem dX7_lettersAhead_3 : decode cX7_lettersAhead 3 = .ok (.istore 4, 2) := by decide +kernel
theorem dX7_lettersAhead_5 : decode cX7_lettersAhead 5 = .ok (.iload 4, 2) := by decide +kernel
theorem dX7_lettersAhead_7 : decode cX7_lettersAhead 7 = .ok (.aload_n 0, 1) := by decide +kernel
theorem dX7_lettersAhead_8 : decode cX7_lettersAhead 8 = .ok (.getfield 25, 3) := by decide +kernel
theorem dX7_lettersAhead_11 : decode cX7_lettersAhead 11 = .ok (.invokevirtual 80, 3) := by decide +kernel
theorem dX7_lettersAhead_14 : decode cX7_lettersAhead 14 = .ok (.if_icmp .ge 64, 3) := by decide +kernel
theorem dX7_lettersAhead_17 : decode cX7_lettersAhead 17 = .ok (.aload_n 0, 1) := by decide +kernel
theorem dX7_lettersAhead_18 : decode cX7_lettersAhead 18 = .ok (.getfield 25, 3) := by decide +kernel
theorem dX7_lettersAhead_21 : decode cX7_lettersAhead 21 = .ok (.iload 4, 2) := by decide +kernel
theorem dX7_lettersAhead_23 : decode cX7_lettersAhead 23 = .ok (.invokevirtual 300, 3) := by decide +kernel
theorem dX7_lettersAhead_26 : decode cX7_lettersAhead 26 = .ok (.checkcast 312, 3) := by decide +kernel
theorem dX7_lettersAhead_29 : decode cX7_lettersAhead 29 = .ok (.astore 5, 2) := by decide +kernel
theorem dX7_lettersAhead_31 : decode cX7_lettersAhead 31 = .ok (.aload 5, 2) := by decide +kernel
theorem dX7_lettersAhead_33 : decode cX7_lettersAhead 33 = .ok (.getfield 337, 3) := by decide +kernel
theorem dX7_lettersAhead_36 : decode cX7_lettersAhead 36 = .ok (.ifCond .ne 36, 3) := by decide +kernel
theorem dX7_lettersAhead_39 : decode cX7_lettersAhead 39 = .ok (.aload 5, 2) := by decide +kernel
theorem dX7_lettersAhead_41 : decode cX7_lettersAhead 41 = .ok (.getfield 411, 3) := by decide +kernel
theorem dX7_lettersAhead_44 : decode cX7_lettersAhead 44 = .ok (.aload_n 2, 1) := by decide +kernel
theorem dX7_lettersAhead_45 : decode cX7_lettersAhead 45 = .ok (.getfield 411, 3) := by decide +kernel
theorem dX7_lettersAhead_48 : decode cX7_lettersAhead 48 = .ok (.if_icmp .lt 21, 3) := by decide +kernel
theorem dX7_lettersAhead_51 : decode cX7_lettersAhead 51 = .ok (.aload 5, 2) := by decide +kernel
theorem dX7_lettersAhead_53 : decode cX7_lettersAhead 53 = .ok (.getfield 411, 3) := by decide +kernel
theorem dX7_lettersAhead_56 : decode cX7_lettersAhead 56 = .ok (.aload_n 2, 1) := by decide +kernel
theorem dX7_lettersAhead_57 : decode cX7_lettersAhead 57 = .ok (.getfield 411, 3) := by decide +kernel
theorem dX7_lettersAhead_60 : decode cX7_lettersAhead 60 = .ok (.if_icmp .ne 12, 3) := by decide +kernel
theorem dX7_lettersAhead_63 : decode cX7_lettersAhead 63 = .ok (.iload 4, 2) := by decide +kernel
theorem dX7_lettersAhead_65 : decode cX7_lettersAhead 65 = .ok (.iload_n 1, 1) := by decide +kernel
theorem dX7_lettersAhead_66 : decode cX7_lettersAhead 66 = .ok (.if_icmp .ge 6, 3) := by decide +kernel
theorem dX7_lettersAhead_69 : decode cX7_lettersAhead 69 = .ok (.iinc 3 1, 3) := by decide +kernel
theorem dX7_lettersAhead_72 : decode cX7_lettersAhead 72 = .ok (.iinc 4 1, 3) := by decide +kernel
theorem dX7_lettersAhead_75 : decode cX7_lettersAhead 75 = .ok (.goto (-70), 3) := by decide +kernel
theorem dX7_lettersAhead_78 : decode cX7_lettersAhead 78 = .ok (.iload_n 3, 1) := by decide +kernel
theorem dX7_lettersAhead_79 : decode cX7_lettersAhead 79 = .ok (.ireturn, 1) := by decide +kernel
theorem dX7_clearanceBehind_0 : decode cX7_clearanceBehind 0 = .ok (.aload_n 1, 1) := by decide +kernel
theorem dX7_clearanceBehind_1 : decode cX7_clearanceBehind 1 = .ok (.getfield 420, 3) := by decide +kernel
theorem dX7_clearanceBehind_4 : decode cX7_clearanceBehind 4 = .ok (.istore_n 3, 1) := by decide +kernel
theorem dX7_clearanceBehind_5 : decode cX7_clearanceBehind 5 = .ok (.iconst 0, 1) := by decide +kernel
theorem dX7_clearanceBehind_6 : decode cX7_clearanceBehind 6 = .ok (.istore 4, 2) := by decide +kernel
theorem dX7_clearanceBehind_8 : decode cX7_clearanceBehind 8 = .ok (.iload 4, 2) := by decide +kernel
theorem dX7_clearanceBehind_10 : decode cX7_clearanceBehind 10 = .ok (.aload_n 0, 1) := by decide +kernel
theorem dX7_clearanceBehind_11 : decode cX7_clearanceBehind 11 = .ok (.getfield 19, 3) := by decide +kernel
theorem dX7_clearanceBehind_14 : decode cX7_clearanceBehind 14 = .ok (.invokevirtual 80, 3) := by decide +kernel
theorem dX7_clearanceBehind_17 : decode cX7_clearanceBehind 17 = .ok (.if_icmp .ge 49, 3) := by decide +kernel
theorem dX7_clearanceBehind_20 : decode cX7_clearanceBehind 20 = .ok (.aload_n 0, 1) := by decide +kernel
theorem dX7_clearanceBehind_21 : decode cX7_clearanceBehind 21 = .ok (.getfield 19, 3) := by decide +kernel
theorem dX7_clearanceBehind_24 : decode cX7_clearanceBehind 24 = .ok (.iload 4, 2) := by decide +kernel
theorem dX7_clearanceBehind_26 : decode cX7_clearanceBehind 26 = .ok (.invokevirtual 300, 3) := by decide +kernel
theorem dX7_clearanceBehind_29 : decode cX7_clearanceBehind 29 = .ok (.checkcast 95, 3) := by decide +kernel
theorem dX7_clearanceBehind_32 : decode cX7_clearanceBehind 32 = .ok (.astore 5, 2) := by decide +kernel
theorem dX7_clearanceBehind_34 : decode cX7_clearanceBehind 34 = .ok (.aload 5, 2) := by decide +kernel
theorem dX7_clearanceBehind_36 : decode cX7_clearanceBehind 36 = .ok (.getfield 223, 3) := by decide +kernel
theorem dX7_clearanceBehind_39 : decode cX7_clearanceBehind 39 = .ok (.aload_n 1, 1) := by decide +kernel
theorem dX7_clearanceBehind_40 : decode cX7_clearanceBehind 40 = .ok (.if_acmp .ne 20, 3) := by decide +kernel
theorem dX7_clearanceBehind_43 : decode cX7_clearanceBehind 43 = .ok (.aload 5, 2) := by decide +kernel
theorem dX7_clearanceBehind_45 : decode cX7_clearanceBehind 45 = .ok (.getfield 229, 3) := by decide +kernel
theorem dX7_clearanceBehind_48 : decode cX7_clearanceBehind 48 = .ok (.aload_n 0, 1) := by decide +kernel
theorem dX7_clearanceBehind_49 : decode cX7_clearanceBehind 49 = .ok (.getfield 52, 3) := by decide +kernel
theorem dX7_clearanceBehind_52 : decode cX7_clearanceBehind 52 = .ok (.iload_n 2, 1) := by decide +kernel
theorem dX7_clearanceBehind_53 : decode cX7_clearanceBehind 53 = .ok (.iadd, 1) := by decide +kernel
theorem dX7_clearanceBehind_54 : decode cX7_clearanceBehind 54 = .ok (.if_icmp .ge 6, 3) := by decide +kernel
theorem dX7_clearanceBehind_57 : decode cX7_clearanceBehind 57 = .ok (.iinc 3 1, 3) := by decide +kernel
theorem dX7_clearanceBehind_60 : decode cX7_clearanceBehind 60 = .ok (.iinc 4 1, 3) := by decide +kernel
theorem dX7_clearanceBehind_63 : decode cX7_clearanceBehind 63 = .ok (.goto (-55), 3) := by decide +kernel
theorem dX7_clearanceBehind_66 : decode cX7_clearanceBehind 66 = .ok (.iconst 0, 1) := by decide +kernel
theorem dX7_clearanceBehind_67 : decode cX7_clearanceBehind 67 = .ok (.aload_n 1, 1) := by decide +kernel
theorem dX7_clearanceBehind_68 : decode cX7_clearanceBehind 68 = .ok (.getfield 423, 3) := by decide +kernel
theorem dX7_clearanceBehind_71 : decode cX7_clearanceBehind 71 = .ok (.iload_n 3, 1) := by decide +kernel
theorem dX7_clearanceBehind_72 : decode cX7_clearanceBehind 72 = .ok (.iconst 3, 1) := by decide +kernel
theorem dX7_clearanceBehind_73 : decode cX7_clearanceBehind 73 = .ok (.idiv, 1) := by decide +kernel
theorem dX7_clearanceBehind_74 : decode cX7_clearanceBehind 74 = .ok (.isub, 1) := by decide +kernel
theorem dX7_clearanceBehind_75 : decode cX7_clearanceBehind 75 = .ok (.invokestatic 426, 3) := by decide +kernel
theorem dX7_clearanceBehind_78 : decode cX7_clearanceBehind 78 = .ok (.ireturn, 1) := by decide +kernel
theorem dX7_tellCount_0 : decode cX7_tellCount 0 = .ok (.iload_n 1, 1) := by decide +kernel
theorem dX7_tellCount_1 : decode cX7_tellCount 1 = .ok (.tableswitch 131 0 10 #[59, 64, 72, 80, 88, 96, 104, 110, 116, 121, 126], 59) := by decide +kernel
theorem dX7_tellCount_60 : decode cX7_tellCount 60 = .ok (.aload_n 0, 1) := by decide +kernel
theorem dX7_tellCount_61 : decode cX7_tellCount 61 = .ok (.getfield 52, 3) := by decide +kernel
theorem dX7_tellCount_64 : decode cX7_tellCount 64 = .ok (.ireturn, 1) := by decide +kernel
theorem dX7_tellCount_65 : decode cX7_tellCount 65 = .ok (.aload_n 0, 1) := by decide +kernel
theorem dX7_tellCount_66 : decode cX7_tellCount 66 = .ok (.getfield 12, 3) := by decide +kernel
theorem dX7_tellCount_69 : decode cX7_tellCount 69 = .ok (.invokevirtual 80, 3) := by decide +kernel
theorem dX7_tellCount_72 : decode cX7_tellCount 72 = .ok (.ireturn, 1) := by decide +kernel
theorem dX7_tellCount_73 : decode cX7_tellCount 73 = .ok (.aload_n 0, 1) := by decide +kernel
theorem dX7_tellCount_74 : decode cX7_tellCount 74 = .ok (.getfield 16, 3) := by decide +kernel
theorem dX7_tellCount_77 : decode cX7_tellCount 77 = .ok (.invokevirtual 80, 3) := by decide +kernel
theorem dX7_tellCount_80 : decode cX7_tellCount 80 = .ok (.ireturn, 1) := by decide +kernel
theorem dX7_tellCount_81 : decode cX7_tellCount 81 = .ok (.aload_n 0, 1) := by decide +kernel
theorem dX7_tellCount_82 : decode cX7_tellCount 82 = .ok (.getfield 19, 3) := by decide +kernel
theorem dX7_tellCount_85 : decode cX7_tellCount 85 = .ok (.invokevirtual 80, 3) := by decide +kernel
theorem dX7_tellCount_88 : decode cX7_tellCount 88 = .ok (.ireturn, 1) := by decide +kernel
theorem dX7_tellCount_89 : decode cX7_tellCount 89 = .ok (.aload_n 0, 1) := by decide +kernel
theorem dX7_tellCount_90 : decode cX7_tellCount 90 = .ok (.getfield 22, 3) := by decide +kernel
theorem dX7_tellCount_93 : decode cX7_tellCount 93 = .ok (.invokevirtual 80, 3) := by decide +kernel
theorem dX7_tellCount_96 : decode cX7_tellCount 96 = .ok (.ireturn, 1) := by decide +kernel
theorem dX7_tellCount_97 : decode cX7_tellCount 97 = .ok (.aload_n 0, 1) := by decide +kernel
theorem dX7_tellCount_98 : decode cX7_tellCount 98 = .ok (.getfield 25, 3) := by decide +kernel
theorem dX7_tellCount_101 : decode cX7_tellCount 101 = .ok (.invokevirtual 80, 3) := by decide +kernel
theorem dX7_tellCount_104 : decode cX7_tellCount 104 = .ok (.ireturn, 1) := by decide +kernel
theorem dX7_tellCount_105 : decode cX7_tellCount 105 = .ok (.aload_n 0, 1) := by decide +kernel
theorem dX7_tellCount_106 : decode cX7_tellCount 106 = .ok (.iconst 0, 1) := by decide +kernel
theorem dX7_tellCount_107 : decode cX7_tellCount 107 = .ok (.invokevirtual 429, 3) := by decide +kernel
theorem dX7_tellCount_110 : decode cX7_tellCount 110 = .ok (.ireturn, 1) := by decide +kernel
theorem dX7_tellCount_111 : decode cX7_tellCount 111 = .ok (.aload_n 0, 1) := by decide +kernel
theorem dX7_tellCount_112 : decode cX7_tellCount 112 = .ok (.iconst 1, 1) := by decide +kernel
theorem dX7_tellCount_113 : decode cX7_tellCount 113 = .ok (.invokevirtual 429, 3) := by decide +kernel
theorem dX7_tellCount_116 : decode cX7_tellCount 116 = .ok (.ireturn, 1) := by decide +kernel
theorem dX7_tellCount_117 : decode cX7_tellCount 117 = .ok (.aload_n 0, 1) := by decide +kernel
theorem dX7_tellCount_118 : decode cX7_tellCount 118 = .ok (.getfield 32, 3) := by decide +kernel
theorem dX7_tellCount_121 : decode cX7_tellCount 121 = .ok (.ireturn, 1) := by decide +kernel
theorem dX7_tellCount_122 : decode cX7_tellCount 122 = .ok (.aload_n 0, 1) := by decide +kernel
theorem dX7_tellCount_123 : decode cX7_tellCount 123 = .ok (.getfield 39, 3) := by decide +kernel
theorem dX7_tellCount_126 : decode cX7_tellCount 126 = .ok (.ireturn, 1) := by decide +kernel
theorem dX7_tellCount_127 : decode cX7_tellCount 127 = .ok (.aload_n 0, 1) := by decide +kernel
theorem dX7_tellCount_128 : decode cX7_tellCount 128 = .ok (.invokevirtual 432, 3) := by decide +kernel
theorem dX7_tellCount_131 : decode cX7_tellCount 131 = .ok (.ireturn, 1) := by decide +kernel
theorem dX7_tellCount_132 : decode cX7_tellCount 132 = .ok (.aload_n 0, 1) := by decide +kernel
theorem dX7_tellCount_133 : decode cX7_tellCount 133 = .ok (.invokevirtual 435, 3) := by decide +kernel
theorem dX7_tellCount_136 : decode cX7_tellCount 136 = .ok (.ireturn, 1) := by decide +kernel
theorem dX7_countLetters_0 : decode cX7_countLetters 0 = .ok (.iconst 0, 1) := by decide +kernel
theorem dX7_countLetters_1 : decode cX7_countLetters 1 = .ok (.istore_n 2, 1) := by decide +kernel
theorem dX7_countLetters_2 : decode cX7_countLetters 2 = .ok (.iconst 0, 1) := by decide +kernel
theorem dX7_countLetters_3 : decode cX7_countLetters 3 = .ok (.istore_n 3, 1) := by decide +kernel
theorem dX7_countLetters_4 : decode cX7_countLetters 4 = .ok (.iload_n 3, 1) := by decide +kernel
theorem dX7_countLetters_5 : decode cX7_countLetters 5 = .ok (.aload_n 0, 1) := by decide +kernel
theorem dX7_countLetters_6 : decode cX7_countLetters 6 = .ok (.getfield 25, 3) := by decide +kernel
theorem dX7_countLetters_9 : decode cX7_countLetters 9 = .ok (.invokevirtual 80, 3) := by decide +kernel
theorem dX7_countLetters_12 : decode cX7_countLetters 12 = .ok (.if_icmp .ge 30, 3) := by decide +kernel
theorem dX7_countLetters_15 : decode cX7_countLetters 15 = .ok (.aload_n 0, 1) := by decide +kernel
theorem dX7_countLetters_16 : decode cX7_countLetters 16 = .ok (.getfield 25, 3) := by decide +kernel
theorem dX7_countLetters_19 : decode cX7_countLetters 19 = .ok (.iload_n 3, 1) := by decide +kernel
theorem dX7_countLetters_20 : decode cX7_countLetters 20 = .ok (.invokevirtual 300, 3) := by decide +kernel
theorem dX7_countLetters_23 : decode cX7_countLetters 23 = .ok (.checkcast 312, 3) := by decide +kernel
theorem dX7_countLetters_26 : decode cX7_countLetters 26 = .ok (.getfield 337, 3) := by decide +kernel
theorem dX7_countLetters_29 : decode cX7_countLetters 29 = .ok (.iload_n 1, 1) := by decide +kernel
theorem dX7_countLetters_30 : decode cX7_countLetters 30 = .ok (.if_icmp .ne 6, 3) := by decide +kernel
theorem dX7_countLetters_33 : decode cX7_countLetters 33 = .ok (.iinc 2 1, 3) := by decide +kernel
theorem dX7_countLetters_36 : decode cX7_countLetters 36 = .ok (.iinc 3 1, 3) := by decide +kernel
theorem dX7_countLetters_39 : decode cX7_countLetters 39 = .ok (.goto (-35), 3) := by decide +kernel
theorem dX7_countLetters_42 : decode cX7_countLetters 42 = .ok (.iload_n 2, 1) := by decide +kernel
theorem dX7_countLetters_43 : decode cX7_countLetters 43 = .ok (.ireturn, 1) := by decide +kernel
theorem dX7_countLost_0 : decode cX7_countLost 0 = .ok (.iconst 0, 1) := by decide +kernel
theorem dX7_countLost_1 : decode cX7_countLost 1 = .ok (.istore_n 1, 1) := by decide +kernel
theorem dX7_countLost_2 : decode cX7_countLost 2 = .ok (.iconst 0, 1) := by decide +kernel
theorem dX7_countLost_3 : decode cX7_countLost 3 = .ok (.istore_n 2, 1) := by decide +kernel
theorem dX7_countLost_4 : decode cX7_countLost 4 = .ok (.iload_n 2, 1) := by decide +kernel
theorem dX7_countLost_5 : decode cX7_countLost 5 = .ok (.aload_n 0, 1) := by decide +kernel
theorem dX7_countLost_6 : decode cX7_countLost 6 = .ok (.getfield 22, 3) := by decide +kernel
theorem dX7_countLost_9 : decode cX7_countLost 9 = .ok (.invokevirtual 80, 3) := by decide +kernel
theorem dX7_countLost_12 : decode cX7_countLost 12 = .ok (.if_icmp .ge 29, 3) := by decide +kernel
theorem dX7_countLost_15 : decode cX7_countLost 15 = .ok (.aload_n 0, 1) := by decide +kernel
theorem dX7_countLost_16 : decode cX7_countLost 16 = .ok (.getfield 22, 3) := by decide +kernel
theorem dX7_countLost_19 : decode cX7_countLost 19 = .ok (.iload_n 2, 1) := by decide +kernel
theorem dX7_countLost_20 : decode cX7_countLost 20 = .ok (.invokevirtual 300, 3) := by decide +kernel
theorem dX7_countLost_23 : decode cX7_countLost 23 = .ok (.checkcast 241, 3) := by decide +kernel
theorem dX7_countLost_26 : decode cX7_countLost 26 = .ok (.getfield 252, 3) := by decide +kernel
theorem dX7_countLost_29 : decode cX7_countLost 29 = .ok (.ifCond .eq 6, 3) := by decide +kernel
theorem dX7_countLost_32 : decode cX7_countLost 32 = .ok (.iinc 1 1, 3) := by decide +kernel
theorem dX7_countLost_35 : decode cX7_countLost 35 = .ok (.iinc 2 1, 3) := by decide +kernel
theorem dX7_countLost_38 : decode cX7_countLost 38 = .ok (.goto (-34), 3) := by decide +kernel
theorem dX7_countLost_41 : decode cX7_countLost 41 = .ok (.iload_n 1, 1) := by decide +kernel
theorem dX7_countLost_42 : decode cX7_countLost 42 = .ok (.ireturn, 1) := by decide +kernel
theorem dX7_countLent_0 : decode cX7_countLent 0 = .ok (.iconst 0, 1) := by decide +kernel
theorem dX7_countLent_1 : decode cX7_countLent 1 = .ok (.istore_n 1, 1) := by decide +kernel
theorem dX7_countLent_2 : decode cX7_countLent 2 = .ok (.iconst 0, 1) := by decide +kernel
theorem dX7_countLent_3 : decode cX7_countLent 3 = .ok (.istore_n 2, 1) := by decide +kernel
theorem dX7_countLent_4 : decode cX7_countLent 4 = .ok (.iload_n 2, 1) := by decide +kernel
theorem dX7_countLent_5 : decode cX7_countLent 5 = .ok (.aload_n 0, 1) := by decide +kernel
theorem dX7_countLent_6 : decode cX7_countLent 6 = .ok (.getfield 19, 3) := by decide +kernel
theorem dX7_countLent_9 : decode cX7_countLent 9 = .ok (.invokevirtual 80, 3) := by decide +kernel
theorem dX7_countLent_12 : decode cX7_countLent 12 = .ok (.if_icmp .ge 29, 3) := by decide +kernel
theorem dX7_countLent_15 : decode cX7_countLent 15 = .ok (.aload_n 0, 1) := by decide +kernel
theorem dX7_countLent_16 : decode cX7_countLent 16 = .ok (.getfield 19, 3) := by decide +kernel
theorem dX7_countLent_19 : decode cX7_countLent 19 = .ok (.iload_n 2, 1) := by decide +kernel
theorem dX7_countLent_20 : decode cX7_countLent 20 = .ok (.invokevirtual 300, 3) := by decide +kernel
theorem dX7_countLent_23 : decode cX7_countLent 23 = .ok (.checkcast 95, 3) := by decide +kernel
theorem dX7_countLent_26 : decode cX7_countLent 26 = .ok (.getfield 223, 3) := by decide +kernel
theorem dX7_countLent_29 : decode cX7_countLent 29 = .ok (.ifnull 6, 3) := by decide +kernel
theorem dX7_countLent_32 : decode cX7_countLent 32 = .ok (.iinc 1 1, 3) := by decide +kernel
theorem dX7_countLent_35 : decode cX7_countLent 35 = .ok (.iinc 2 1, 3) := by decide +kernel
theorem dX7_countLent_38 : decode cX7_countLent 38 = .ok (.goto (-34), 3) := by decide +kernel
theorem dX7_countLent_41 : decode cX7_countLent 41 = .ok (.iload_n 1, 1) := by decide +kernel
theorem dX7_countLent_42 : decode cX7_countLent 42 = .ok (.ireturn, 1) := by decide +kernel
theorem dX7_tellCase_0 : decode cX7_tellCase 0 = .ok (.iload_n 2, 1) := by decide +kernel
theorem dX7_tellCase_1 : decode cX7_tellCase 1 = .ok (.tableswitch 57 0 3 #[31, 36, 42, 51], 31) := by decide +kernel
theorem dX7_tellCase_32 : decode cX7_tellCase 32 = .ok (.aload_n 1, 1) := by decide +kernel
theorem dX7_tellCase_33 : decode cX7_tellCase 33 = .ok (.getfield 139, 3) := by decide +kernel
theorem dX7_tellCase_36 : decode cX7_tellCase 36 = .ok (.ireturn, 1) := by decide +kernel
theorem dX7_tellCase_37 : decode cX7_tellCase 37 = .ok (.aload_n 0, 1) := by decide +kernel
theorem dX7_tellCase_38 : decode cX7_tellCase 38 = .ok (.aload_n 1, 1) := by decide +kernel
theorem dX7_tellCase_39 : decode cX7_tellCase 39 = .ok (.invokevirtual 438, 3) := by decide +kernel
theorem dX7_tellCase_42 : decode cX7_tellCase 42 = .ok (.ireturn, 1) := by decide +kernel
theorem dX7_tellCase_43 : decode cX7_tellCase 43 = .ok (.aload_n 0, 1) := by decide +kernel
theorem dX7_tellCase_44 : decode cX7_tellCase 44 = .ok (.aload_n 1, 1) := by decide +kernel
theorem dX7_tellCase_45 : decode cX7_tellCase 45 = .ok (.invokevirtual 86, 3) := by decide +kernel
theorem dX7_tellCase_48 : decode cX7_tellCase 48 = .ok (.invokestatic 441, 3) := by decide +kernel
theorem dX7_tellCase_51 : decode cX7_tellCase 51 = .ok (.ireturn, 1) := by decide +kernel
theorem dX7_tellCase_52 : decode cX7_tellCase 52 = .ok (.aload_n 0, 1) := by decide +kernel
theorem dX7_tellCase_53 : decode cX7_tellCase 53 = .ok (.aload_n 1, 1) := by decide +kernel
theorem dX7_tellCase_54 : decode cX7_tellCase 54 = .ok (.invokevirtual 446, 3) := by decide +kernel
theorem dX7_tellCase_57 : decode cX7_tellCase 57 = .ok (.ireturn, 1) := by decide +kernel
theorem dX7_tellCase_58 : decode cX7_tellCase 58 = .ok (.aload_n 0, 1) := by decide +kernel
theorem dX7_tellCase_59 : decode cX7_tellCase 59 = .ok (.aload_n 1, 1) := by decide +kernel
theorem dX7_tellCase_60 : decode cX7_tellCase 60 = .ok (.invokevirtual 449, 3) := by decide +kernel
theorem dX7_tellCase_63 : decode cX7_tellCase 63 = .ok (.ireturn, 1) := by decide +kernel
theorem dX7_countDocumentsOf_0 : decode cX7_countDocumentsOf 0 = .ok (.iconst 0, 1) := by decide +kernel
theorem dX7_countDocumentsOf_1 : decode cX7_countDocumentsOf 1 = .ok (.istore_n 2, 1) := by decide +kernel
theorem dX7_countDocumentsOf_2 : decode cX7_countDocumentsOf 2 = .ok (.iconst 0, 1) := by decide +kernel
theorem dX7_countDocumentsOf_3 : decode cX7_countDocumentsOf 3 = .ok (.istore_n 3, 1) := by decide +kernel
theorem dX7_countDocumentsOf_4 : decode cX7_countDocumentsOf 4 = .ok (.iload_n 3, 1) := by decide +kernel
theorem dX7_countDocumentsOf_5 : decode cX7_countDocumentsOf 5 = .ok (.aload_n 0, 1) := by decide +kernel
theorem dX7_countDocumentsOf_6 : decode cX7_countDocumentsOf 6 = .ok (.getfield 19, 3) := by decide +kernel
theorem dX7_countDocumentsOf_9 : decode cX7_countDocumentsOf 9 = .ok (.invokevirtual 80, 3) := by decide +kernel
theorem dX7_countDocumentsOf_12 : decode cX7_countDocumentsOf 12 = .ok (.if_icmp .ge 30, 3) := by decide +kernel
theorem dX7_countDocumentsOf_15 : decode cX7_countDocumentsOf 15 = .ok (.aload_n 0, 1) := by decide +kernel
theorem dX7_countDocumentsOf_16 : decode cX7_countDocumentsOf 16 = .ok (.getfield 19, 3) := by decide +kernel
theorem dX7_countDocumentsOf_19 : decode cX7_countDocumentsOf 19 = .ok (.iload_n 3, 1) := by decide +kernel
theorem dX7_countDocumentsOf_20 : decode cX7_countDocumentsOf 20 = .ok (.invokevirtual 300, 3) := by decide +kernel
theorem dX7_countDocumentsOf_23 : decode cX7_countDocumentsOf 23 = .ok (.checkcast 95, 3) := by decide +kernel
theorem dX7_countDocumentsOf_26 : decode cX7_countDocumentsOf 26 = .ok (.getfield 181, 3) := by decide +kernel
theorem dX7_countDocumentsOf_29 : decode cX7_countDocumentsOf 29 = .ok (.aload_n 1, 1) := by decide +kernel
theorem dX7_countDocumentsOf_30 : decode cX7_countDocumentsOf 30 = .ok (.if_acmp .ne 6, 3) := by decide +kernel
theorem dX7_countDocumentsOf_33 : decode cX7_countDocumentsOf 33 = .ok (.iinc 2 1, 3) := by decide +kernel
theorem dX7_countDocumentsOf_36 : decode cX7_countDocumentsOf 36 = .ok (.iinc 3 1, 3) := by decide +kernel
theorem dX7_countDocumentsOf_39 : decode cX7_countDocumentsOf 39 = .ok (.goto (-35), 3) := by decide +kernel
theorem dX7_countDocumentsOf_42 : decode cX7_countDocumentsOf 42 = .ok (.iload_n 2, 1) := by decide +kernel
theorem dX7_countDocumentsOf_43 : decode cX7_countDocumentsOf 43 = .ok (.ireturn, 1) := by decide +kernel
theorem dX7_countAdmitted_0 : decode cX7_countAdmitted 0 = .ok (.iconst 0, 1) := by decide +kernel
theorem dX7_countAdmitted_1 : decode cX7_countAdmitted 1 = .ok (.istore_n 2, 1) := by decide +kernel
theorem dX7_countAdmitted_2 : decode cX7_countAdmitted 2 = .ok (.iconst 0, 1) := by decide +kernel
theorem dX7_countAdmitted_3 : decode cX7_countAdmitted 3 = .ok (.istore_n 3, 1) := by decide +kernel
theorem dX7_countAdmitted_4 : decode cX7_countAdmitted 4 = .ok (.iload_n 3, 1) := by decide +kernel
theorem dX7_countAdmitted_5 : decode cX7_countAdmitted 5 = .ok (.aload_n 0, 1) := by decide +kernel
theorem dX7_countAdmitted_6 : decode cX7_countAdmitted 6 = .ok (.getfield 22, 3) := by decide +kernel
theorem dX7_countAdmitted_9 : decode cX7_countAdmitted 9 = .ok (.invokevirtual 80, 3) := by decide +kernel
theorem dX7_countAdmitted_12 : decode cX7_countAdmitted 12 = .ok (.if_icmp .ge 42, 3) := by decide +kernel
theorem dX7_countAdmitted_15 : decode cX7_countAdmitted 15 = .ok (.aload_n 0, 1) := by decide +kernel
theorem dX7_countAdmitted_16 : decode cX7_countAdmitted 16 = .ok (.getfield 22, 3) := by decide +kernel
theorem dX7_countAdmitted_19 : decode cX7_countAdmitted 19 = .ok (.iload_n 3, 1) := by decide +kernel
theorem dX7_countAdmitted_20 : decode cX7_countAdmitted 20 = .ok (.invokevirtual 300, 3) := by decide +kernel
theorem dX7_countAdmitted_23 : decode cX7_countAdmitted 23 = .ok (.checkcast 241, 3) := by decide +kernel
theorem dX7_countAdmitted_26 : decode cX7_countAdmitted 26 = .ok (.astore 4, 2) := by decide +kernel
theorem dX7_countAdmitted_28 : decode cX7_countAdmitted 28 = .ok (.aload 4, 2) := by decide +kernel
theorem dX7_countAdmitted_30 : decode cX7_countAdmitted 30 = .ok (.getfield 263, 3) := by decide +kernel
theorem dX7_countAdmitted_33 : decode cX7_countAdmitted 33 = .ok (.aload_n 1, 1) := by decide +kernel
theorem dX7_countAdmitted_34 : decode cX7_countAdmitted 34 = .ok (.if_acmp .ne 14, 3) := by decide +kernel
theorem dX7_countAdmitted_37 : decode cX7_countAdmitted 37 = .ok (.aload 4, 2) := by decide +kernel
theorem dX7_countAdmitted_39 : decode cX7_countAdmitted 39 = .ok (.invokevirtual 452, 3) := by decide +kernel
theorem dX7_countAdmitted_42 : decode cX7_countAdmitted 42 = .ok (.ifCond .eq 6, 3) := by decide +kernel
theorem dX7_countAdmitted_45 : decode cX7_countAdmitted 45 = .ok (.iinc 2 1, 3) := by decide +kernel
theorem dX7_countAdmitted_48 : decode cX7_countAdmitted 48 = .ok (.iinc 3 1, 3) := by decide +kernel
theorem dX7_countAdmitted_51 : decode cX7_countAdmitted 51 = .ok (.goto (-47), 3) := by decide +kernel
theorem dX7_countAdmitted_54 : decode cX7_countAdmitted 54 = .ok (.iload_n 2, 1) := by decide +kernel
theorem dX7_countAdmitted_55 : decode cX7_countAdmitted 55 = .ok (.ireturn, 1) := by decide +kernel
theorem dX7_countWhoSeeInto_0 : decode cX7_countWhoSeeInto 0 = .ok (.iconst 0, 1) := by decide +kernel
theorem dX7_countWhoSeeInto_1 : decode cX7_countWhoSeeInto 1 = .ok (.istore_n 2, 1) := by decide +kernel
theorem dX7_countWhoSeeInto_2 : decode cX7_countWhoSeeInto 2 = .ok (.iconst 0, 1) := by decide +kernel
theorem dX7_countWhoSeeInto_3 : decode cX7_countWhoSeeInto 3 = .ok (.istore_n 3, 1) := by decide +kernel
theorem dX7_countWhoSeeInto_4 : decode cX7_countWhoSeeInto 4 = .ok (.iload_n 3, 1) := by decide +kernel
theorem dX7_countWhoSeeInto_5 : decode cX7_countWhoSeeInto 5 = .ok (.aload_n 0, 1) := by decide +kernel
theorem dX7_countWhoSeeInto_6 : decode cX7_countWhoSeeInto 6 = .ok (.getfield 16, 3) := by decide +kernel
theorem dX7_countWhoSeeInto_9 : decode cX7_countWhoSeeInto 9 = .ok (.invokevirtual 80, 3) := by decide +kernel
theorem dX7_countWhoSeeInto_12 : decode cX7_countWhoSeeInto 12 = .ok (.if_icmp .ge 30, 3) := by decide +kernel
theorem dX7_countWhoSeeInto_15 : decode cX7_countWhoSeeInto 15 = .ok (.aload_n 0, 1) := by decide +kernel
theorem dX7_countWhoSeeInto_16 : decode cX7_countWhoSeeInto 16 = .ok (.getfield 16, 3) := by decide +kernel
theorem dX7_countWhoSeeInto_19 : decode cX7_countWhoSeeInto 19 = .ok (.iload_n 3, 1) := by decide +kernel
theorem dX7_countWhoSeeInto_20 : decode cX7_countWhoSeeInto 20 = .ok (.invokevirtual 300, 3) := by decide +kernel
theorem dX7_countWhoSeeInto_23 : decode cX7_countWhoSeeInto 23 = .ok (.checkcast 146, 3) := by decide +kernel
theorem dX7_countWhoSeeInto_26 : decode cX7_countWhoSeeInto 26 = .ok (.aload_n 1, 1) := by decide +kernel
theorem dX7_countWhoSeeInto_27 : decode cX7_countWhoSeeInto 27 = .ok (.invokevirtual 264, 3) := by decide +kernel
theorem dX7_countWhoSeeInto_30 : decode cX7_countWhoSeeInto 30 = .ok (.ifCond .eq 6, 3) := by decide +kernel
theorem dX7_countWhoSeeInto_33 : decode cX7_countWhoSeeInto 33 = .ok (.iinc 2 1, 3) := by decide +kernel
theorem dX7_countWhoSeeInto_36 : decode cX7_countWhoSeeInto 36 = .ok (.iinc 3 1, 3) := by decide +kernel
theorem dX7_countWhoSeeInto_39 : decode cX7_countWhoSeeInto 39 = .ok (.goto (-35), 3) := by decide +kernel
theorem dX7_countWhoSeeInto_42 : decode cX7_countWhoSeeInto 42 = .ok (.iload_n 2, 1) := by decide +kernel
theorem dX7_countWhoSeeInto_43 : decode cX7_countWhoSeeInto 43 = .ok (.ireturn, 1) := by decide +kernel
theorem dX7_tellPerson_0 : decode cX7_tellPerson 0 = .ok (.iload_n 2, 1) := by decide +kernel
theorem dX7_tellPerson_1 : decode cX7_tellPerson 1 = .ok (.tableswitch 81 0 6 #[43, 48, 53, 58, 64, 69, 75], 43) := by decide +kernel
theorem dX7_tellPerson_44 : decode cX7_tellPerson 44 = .ok (.aload_n 1, 1) := by decide +kernel
theorem dX7_tellPerson_45 : decode cX7_tellPerson 45 = .ok (.getfield 367, 3) := by decide +kernel
theorem dX7_tellPerson_48 : decode cX7_tellPerson 48 = .ok (.ireturn, 1) := by decide +kernel
theorem dX7_tellPerson_49 : decode cX7_tellPerson 49 = .ok (.aload_n 1, 1) := by decide +kernel
theorem dX7_tellPerson_50 : decode cX7_tellPerson 50 = .ok (.getfield 423, 3) := by decide +kernel
theorem dX7_tellPerson_53 : decode cX7_tellPerson 53 = .ok (.ireturn, 1) := by decide +kernel
theorem dX7_tellPerson_54 : decode cX7_tellPerson 54 = .ok (.aload_n 1, 1) := by decide +kernel
theorem dX7_tellPerson_55 : decode cX7_tellPerson 55 = .ok (.getfield 157, 3) := by decide +kernel
theorem dX7_tellPerson_58 : decode cX7_tellPerson 58 = .ok (.ireturn, 1) := by decide +kernel
theorem dX7_tellPerson_59 : decode cX7_tellPerson 59 = .ok (.aload_n 0, 1) := by decide +kernel
theorem dX7_tellPerson_60 : decode cX7_tellPerson 60 = .ok (.aload_n 1, 1) := by decide +kernel
theorem dX7_tellPerson_61 : decode cX7_tellPerson 61 = .ok (.invokevirtual 455, 3) := by decide +kernel
theorem dX7_tellPerson_64 : decode cX7_tellPerson 64 = .ok (.ireturn, 1) := by decide +kernel
theorem dX7_tellPerson_65 : decode cX7_tellPerson 65 = .ok (.aload_n 1, 1) := by decide +kernel
theorem dX7_tellPerson_66 : decode cX7_tellPerson 66 = .ok (.getfield 420, 3) := by decide +kernel
theorem dX7_tellPerson_69 : decode cX7_tellPerson 69 = .ok (.ireturn, 1) := by decide +kernel
theorem dX7_tellPerson_70 : decode cX7_tellPerson 70 = .ok (.aload_n 0, 1) := by decide +kernel
theorem dX7_tellPerson_71 : decode cX7_tellPerson 71 = .ok (.aload_n 1, 1) := by decide +kernel
theorem dX7_tellPerson_72 : decode cX7_tellPerson 72 = .ok (.invokevirtual 458, 3) := by decide +kernel
theorem dX7_tellPerson_75 : decode cX7_tellPerson 75 = .ok (.ireturn, 1) := by decide +kernel
theorem dX7_tellPerson_76 : decode cX7_tellPerson 76 = .ok (.aload_n 0, 1) := by decide +kernel
theorem dX7_tellPerson_77 : decode cX7_tellPerson 77 = .ok (.aload_n 1, 1) := by decide +kernel
theorem dX7_tellPerson_78 : decode cX7_tellPerson 78 = .ok (.invokevirtual 461, 3) := by decide +kernel
theorem dX7_tellPerson_81 : decode cX7_tellPerson 81 = .ok (.ireturn, 1) := by decide +kernel
theorem dX7_tellPerson_82 : decode cX7_tellPerson 82 = .ok (.aload_n 0, 1) := by decide +kernel
theorem dX7_tellPerson_83 : decode cX7_tellPerson 83 = .ok (.aload_n 1, 1) := by decide +kernel
theorem dX7_tellPerson_84 : decode cX7_tellPerson 84 = .ok (.invokevirtual 464, 3) := by decide +kernel
theorem dX7_tellPerson_87 : decode cX7_tellPerson 87 = .ok (.ireturn, 1) := by decide +kernel
theorem dX7_casesSeenBy_0 : decode cX7_casesSeenBy 0 = .ok (.iconst 0, 1) := by decide +kernel
theorem dX7_casesSeenBy_1 : decode cX7_casesSeenBy 1 = .ok (.istore_n 2, 1) := by decide +kernel
theorem dX7_casesSeenBy_2 : decode cX7_casesSeenBy 2 = .ok (.iconst 0, 1) := by decide +kernel
theorem dX7_casesSeenBy_3 : decode cX7_casesSeenBy 3 = .ok (.istore_n 3, 1) := by decide +kernel
theorem dX7_casesSeenBy_4 : decode cX7_casesSeenBy 4 = .ok (.iload_n 3, 1) := by decide +kernel
theorem dX7_casesSeenBy_5 : decode cX7_casesSeenBy 5 = .ok (.aload_n 0, 1) := by decide +kernel
theorem dX7_casesSeenBy_6 : decode cX7_casesSeenBy 6 = .ok (.getfield 12, 3) := by decide +kernel
theorem dX7_casesSeenBy_9 : decode cX7_casesSeenBy 9 = .ok (.invokevirtual 80, 3) := by decide +kernel
theorem dX7_casesSeenBy_12 : decode cX7_casesSeenBy 12 = .ok (.if_icmp .ge 33, 3) := by decide +kernel
theorem dX7_casesSeenBy_15 : decode cX7_casesSeenBy 15 = .ok (.aload_n 1, 1) := by decide +kernel
theorem dX7_casesSeenBy_16 : decode cX7_casesSeenBy 16 = .ok (.aload_n 0, 1) := by decide +kernel
theorem dX7_casesSeenBy_17 : decode cX7_casesSeenBy 17 = .ok (.getfield 12, 3) := by decide +kernel
theorem dX7_casesSeenBy_20 : decode cX7_casesSeenBy 20 = .ok (.iload_n 3, 1) := by decide +kernel
theorem dX7_casesSeenBy_21 : decode cX7_casesSeenBy 21 = .ok (.invokevirtual 300, 3) := by decide +kernel
theorem dX7_casesSeenBy_24 : decode cX7_casesSeenBy 24 = .ok (.checkcast 134, 3) := by decide +kernel
theorem dX7_casesSeenBy_27 : decode cX7_casesSeenBy 27 = .ok (.invokevirtual 264, 3) := by decide +kernel
theorem dX7_casesSeenBy_30 : decode cX7_casesSeenBy 30 = .ok (.ifCond .eq 9, 3) := by decide +kernel
theorem dX7_casesSeenBy_33 : decode cX7_casesSeenBy 33 = .ok (.iload_n 2, 1) := by decide +kernel
theorem dX7_casesSeenBy_34 : decode cX7_casesSeenBy 34 = .ok (.iconst 1, 1) := by decide +kernel
theorem dX7_casesSeenBy_35 : decode cX7_casesSeenBy 35 = .ok (.iload_n 3, 1) := by decide +kernel
theorem dX7_casesSeenBy_36 : decode cX7_casesSeenBy 36 = .ok (.ishl, 1) := by decide +kernel
theorem dX7_casesSeenBy_37 : decode cX7_casesSeenBy 37 = .ok (.ior, 1) := by decide +kernel
theorem dX7_casesSeenBy_38 : decode cX7_casesSeenBy 38 = .ok (.istore_n 2, 1) := by decide +kernel
theorem dX7_casesSeenBy_39 : decode cX7_casesSeenBy 39 = .ok (.iinc 3 1, 3) := by decide +kernel
theorem dX7_casesSeenBy_42 : decode cX7_casesSeenBy 42 = .ok (.goto (-38), 3) := by decide +kernel
theorem dX7_casesSeenBy_45 : decode cX7_casesSeenBy 45 = .ok (.iload_n 2, 1) := by decide +kernel
theorem dX7_casesSeenBy_46 : decode cX7_casesSeenBy 46 = .ok (.ireturn, 1) := by decide +kernel
theorem dX7_countOriginalsWith_0 : decode cX7_countOriginalsWith 0 = .ok (.iconst 0, 1) := by decide +kernel
theorem dX7_countOriginalsWith_1 : decode cX7_countOriginalsWith 1 = .ok (.istore_n 2, 1) := by decide +kernel
theorem dX7_countOriginalsWith_2 : decode cX7_countOriginalsWith 2 = .ok (.iconst 0, 1) := by decide +kernel
theorem dX7_countOriginalsWith_3 : decode cX7_countOriginalsWith 3 = .ok (.istore_n 3, 1) := by decide +kernel
theorem dX7_countOriginalsWith_4 : decode cX7_countOriginalsWith 4 = .ok (.iload_n 3, 1) := by decide +kernel
theorem dX7_countOriginalsWith_5 : decode cX7_countOriginalsWith 5 = .ok (.aload_n 0, 1) := by decide +kernel
theorem dX7_countOriginalsWith_6 : decode cX7_countOriginalsWith 6 = .ok (.getfield 19, 3) := by decide +kernel
theorem dX7_countOriginalsWith_9 : decode cX7_countOriginalsWith 9 = .ok (.invokevirtual 80, 3) := by decide +kernel
theorem dX7_countOriginalsWith_12 : decode cX7_countOriginalsWith 12 = .ok (.if_icmp .ge 30, 3) := by decide +kernel
theorem dX7_countOriginalsWith_15 : decode cX7_countOriginalsWith 15 = .ok (.aload_n 0, 1) := by decide +kernel
theorem dX7_countOriginalsWith_16 : decode cX7_countOriginalsWith 16 = .ok (.getfield 19, 3) := by decide +kernel
theorem dX7_countOriginalsWith_19 : decode cX7_countOriginalsWith 19 = .ok (.iload_n 3, 1) := by decide +kernel
theorem dX7_countOriginalsWith_20 : decode cX7_countOriginalsWith 20 = .ok (.invokevirtual 300, 3) := by decide +kernel
theorem dX7_countOriginalsWith_23 : decode cX7_countOriginalsWith 23 = .ok (.checkcast 95, 3) := by decide +kernel
theorem dX7_countOriginalsWith_26 : decode cX7_countOriginalsWith 26 = .ok (.getfield 223, 3) := by decide +kernel
theorem dX7_countOriginalsWith_29 : decode cX7_countOriginalsWith 29 = .ok (.aload_n 1, 1) := by decide +kernel
theorem dX7_countOriginalsWith_30 : decode cX7_countOriginalsWith 30 = .ok (.if_acmp .ne 6, 3) := by decide +kernel
theorem dX7_countOriginalsWith_33 : decode cX7_countOriginalsWith 33 = .ok (.iinc 2 1, 3) := by decide +kernel
theorem dX7_countOriginalsWith_36 : decode cX7_countOriginalsWith 36 = .ok (.iinc 3 1, 3) := by decide +kernel
theorem dX7_countOriginalsWith_39 : decode cX7_countOriginalsWith 39 = .ok (.goto (-35), 3) := by decide +kernel
theorem dX7_countOriginalsWith_42 : decode cX7_countOriginalsWith 42 = .ok (.iload_n 2, 1) := by decide +kernel
theorem dX7_countOriginalsWith_43 : decode cX7_countOriginalsWith 43 = .ok (.ireturn, 1) := by decide +kernel
theorem dX7_countExhibitsWith_0 : decode cX7_countExhibitsWith 0 = .ok (.iconst 0, 1) := by decide +kernel
theorem dX7_countExhibitsWith_1 : decode cX7_countExhibitsWith 1 = .ok (.istore_n 2, 1) := by decide +kernel
theorem dX7_countExhibitsWith_2 : decode cX7_countExhibitsWith 2 = .ok (.iconst 0, 1) := by decide +kernel
theorem dX7_countExhibitsWith_3 : decode cX7_countExhibitsWith 3 = .ok (.istore_n 3, 1) := by decide +kernel
theorem dX7_countExhibitsWith_4 : decode cX7_countExhibitsWith 4 = .ok (.iload_n 3, 1) := by decide +kernel
theorem dX7_countExhibitsWith_5 : decode cX7_countExhibitsWith 5 = .ok (.aload_n 0, 1) := by decide +kernel
theorem dX7_countExhibitsWith_6 : decode cX7_countExhibitsWith 6 = .ok (.getfield 22, 3) := by decide +kernel
theorem dX7_countExhibitsWith_9 : decode cX7_countExhibitsWith 9 = .ok (.invokevirtual 80, 3) := by decide +kernel
theorem dX7_countExhibitsWith_12 : decode cX7_countExhibitsWith 12 = .ok (.if_icmp .ge 30, 3) := by decide +kernel
theorem dX7_countExhibitsWith_15 : decode cX7_countExhibitsWith 15 = .ok (.aload_n 0, 1) := by decide +kernel
theorem dX7_countExhibitsWith_16 : decode cX7_countExhibitsWith 16 = .ok (.getfield 22, 3) := by decide +kernel
theorem dX7_countExhibitsWith_19 : decode cX7_countExhibitsWith 19 = .ok (.iload_n 3, 1) := by decide +kernel
theorem dX7_countExhibitsWith_20 : decode cX7_countExhibitsWith 20 = .ok (.invokevirtual 300, 3) := by decide +kernel
theorem dX7_countExhibitsWith_23 : decode cX7_countExhibitsWith 23 = .ok (.checkcast 241, 3) := by decide +kernel
theorem dX7_countExhibitsWith_26 : decode cX7_countExhibitsWith 26 = .ok (.getfield 256, 3) := by decide +kernel
theorem dX7_countExhibitsWith_29 : decode cX7_countExhibitsWith 29 = .ok (.aload_n 1, 1) := by decide +kernel
theorem dX7_countExhibitsWith_30 : decode cX7_countExhibitsWith 30 = .ok (.if_acmp .ne 6, 3) := by decide +kernel
theorem dX7_countExhibitsWith_33 : decode cX7_countExhibitsWith 33 = .ok (.iinc 2 1, 3) := by decide +kernel
theorem dX7_countExhibitsWith_36 : decode cX7_countExhibitsWith 36 = .ok (.iinc 3 1, 3) := by decide +kernel
theorem dX7_countExhibitsWith_39 : decode cX7_countExhibitsWith 39 = .ok (.goto (-35), 3) := by decide +kernel
theorem dX7_countExhibitsWith_42 : decode cX7_countExhibitsWith 42 = .ok (.iload_n 2, 1) := by decide +kernel
theorem dX7_countExhibitsWith_43 : decode cX7_countExhibitsWith 43 = .ok (.ireturn, 1) := by decide +kernel
theorem dX7_countDeliveredTo_0 : decode cX7_countDeliveredTo 0 = .ok (.iconst 0, 1) := by decide +kernel
theorem dX7_countDeliveredTo_1 : decode cX7_countDeliveredTo 1 = .ok (.istore_n 2, 1) := by decide +kernel
theorem dX7_countDeliveredTo_2 : decode cX7_countDeliveredTo 2 = .ok (.iconst 0, 1) := by decide +kernel
theorem dX7_countDeliveredTo_3 : decode cX7_countDeliveredTo 3 = .ok (.istore_n 3, 1) := by decide +kernel
theorem dX7_countDeliveredTo_4 : decode cX7_countDeliveredTo 4 = .ok (.iload_n 3, 1) := by decide +kernel
theorem dX7_countDeliveredTo_5 : decode cX7_countDeliveredTo 5 = .ok (.aload_n 0, 1) := by decide +kernel
theorem dX7_countDeliveredTo_6 : decode cX7_countDeliveredTo 6 = .ok (.getfield 25, 3) := by decide +kernel
theorem dX7_countDeliveredTo_9 : decode cX7_countDeliveredTo 9 = .ok (.invokevirtual 80, 3) := by decide +kernel
theorem dX7_countDeliveredTo_12 : decode cX7_countDeliveredTo 12 = .ok (.if_icmp .ge 43, 3) := by decide +kernel
theorem dX7_countDeliveredTo_15 : decode cX7_countDeliveredTo 15 = .ok (.aload_n 0, 1) := by decide +kernel
theorem dX7_countDeliveredTo_16 : decode cX7_countDeliveredTo 16 = .ok (.getfield 25, 3) := by decide +kernel
theorem dX7_countDeliveredTo_19 : decode cX7_countDeliveredTo 19 = .ok (.iload_n 3, 1) := by decide +kernel
theorem dX7_countDeliveredTo_20 : decode cX7_countDeliveredTo 20 = .ok (.invokevirtual 300, 3) := by decide +kernel
theorem dX7_countDeliveredTo_23 : decode cX7_countDeliveredTo 23 = .ok (.checkcast 312, 3) := by decide +kernel
theorem dX7_countDeliveredTo_26 : decode cX7_countDeliveredTo 26 = .ok (.astore 4, 2) := by decide +kernel
theorem dX7_countDeliveredTo_28 : decode cX7_countDeliveredTo 28 = .ok (.aload 4, 2) := by decide +kernel
theorem dX7_countDeliveredTo_30 : decode cX7_countDeliveredTo 30 = .ok (.getfield 351, 3) := by decide +kernel
theorem dX7_countDeliveredTo_33 : decode cX7_countDeliveredTo 33 = .ok (.aload_n 1, 1) := by decide +kernel
theorem dX7_countDeliveredTo_34 : decode cX7_countDeliveredTo 34 = .ok (.if_acmp .ne 15, 3) := by decide +kernel
theorem dX7_countDeliveredTo_37 : decode cX7_countDeliveredTo 37 = .ok (.aload 4, 2) := by decide +kernel
theorem dX7_countDeliveredTo_39 : decode cX7_countDeliveredTo 39 = .ok (.getfield 337, 3) := by decide +kernel
theorem dX7_countDeliveredTo_42 : decode cX7_countDeliveredTo 42 = .ok (.iconst 1, 1) := by decide +kernel
theorem dX7_countDeliveredTo_43 : decode cX7_countDeliveredTo 43 = .ok (.if_icmp .ne 6, 3) := by decide +kernel
theorem dX7_countDeliveredTo_46 : decode cX7_countDeliveredTo 46 = .ok (.iinc 2 1, 3) := by decide +kernel
theorem dX7_countDeliveredTo_49 : decode cX7_countDeliveredTo 49 = .ok (.iinc 3 1, 3) := by decide +kernel
theorem dX7_countDeliveredTo_52 : decode cX7_countDeliveredTo 52 = .ok (.goto (-48), 3) := by decide +kernel
theorem dX7_countDeliveredTo_55 : decode cX7_countDeliveredTo 55 = .ok (.iload_n 2, 1) := by decide +kernel
theorem dX7_countDeliveredTo_56 : decode cX7_countDeliveredTo 56 = .ok (.ireturn, 1) := by decide +kernel
theorem dX7_tellDocument_0 : decode cX7_tellDocument 0 = .ok (.iload_n 1, 1) := by decide +kernel
theorem dX7_tellDocument_1 : decode cX7_tellDocument 1 = .ok (.tableswitch 85 0 6 #[43, 51, 57, 62, 67, 72, 80], 43) := by decide +kernel
theorem dX7_tellDocument_44 : decode cX7_tellDocument 44 = .ok (.aload_n 0, 1) := by decide +kernel
theorem dX7_tellDocument_45 : decode cX7_tellDocument 45 = .ok (.getfield 181, 3) := by decide +kernel
theorem dX7_tellDocument_48 : decode cX7_tellDocument 48 = .ok (.getfield 160, 3) := by decide +kernel
theorem dX7_tellDocument_51 : decode cX7_tellDocument 51 = .ok (.ireturn, 1) := by decide +kernel
theorem dX7_tellDocument_52 : decode cX7_tellDocument 52 = .ok (.aload_n 0, 1) := by decide +kernel
theorem dX7_tellDocument_53 : decode cX7_tellDocument 53 = .ok (.getfield 202, 3) := by decide +kernel
theorem dX7_tellDocument_56 : decode cX7_tellDocument 56 = .ok (.arraylength, 1) := by decide +kernel
theorem dX7_tellDocument_57 : decode cX7_tellDocument 57 = .ok (.ireturn, 1) := by decide +kernel
theorem dX7_tellDocument_58 : decode cX7_tellDocument 58 = .ok (.aload_n 0, 1) := by decide +kernel
theorem dX7_tellDocument_59 : decode cX7_tellDocument 59 = .ok (.invokevirtual 374, 3) := by decide +kernel
theorem dX7_tellDocument_62 : decode cX7_tellDocument 62 = .ok (.ireturn, 1) := by decide +kernel
theorem dX7_tellDocument_63 : decode cX7_tellDocument 63 = .ok (.aload_n 0, 1) := by decide +kernel
theorem dX7_tellDocument_64 : decode cX7_tellDocument 64 = .ok (.invokevirtual 467, 3) := by decide +kernel
theorem dX7_tellDocument_67 : decode cX7_tellDocument 67 = .ok (.ireturn, 1) := by decide +kernel
theorem dX7_tellDocument_68 : decode cX7_tellDocument 68 = .ok (.aload_n 0, 1) := by decide +kernel
theorem dX7_tellDocument_69 : decode cX7_tellDocument 69 = .ok (.invokevirtual 470, 3) := by decide +kernel
theorem dX7_tellDocument_72 : decode cX7_tellDocument 72 = .ok (.ireturn, 1) := by decide +kernel
theorem dX7_tellDocument_73 : decode cX7_tellDocument 73 = .ok (.aload_n 0, 1) := by decide +kernel
theorem dX7_tellDocument_74 : decode cX7_tellDocument 74 = .ok (.getfield 223, 3) := by decide +kernel
theorem dX7_tellDocument_77 : decode cX7_tellDocument 77 = .ok (.invokestatic 232, 3) := by decide +kernel
theorem dX7_tellDocument_80 : decode cX7_tellDocument 80 = .ok (.ireturn, 1) := by decide +kernel
theorem dX7_tellDocument_81 : decode cX7_tellDocument 81 = .ok (.aload_n 0, 1) := by decide +kernel
theorem dX7_tellDocument_82 : decode cX7_tellDocument 82 = .ok (.getfield 229, 3) := by decide +kernel
theorem dX7_tellDocument_85 : decode cX7_tellDocument 85 = .ok (.ireturn, 1) := by decide +kernel
theorem dX7_tellDocument_86 : decode cX7_tellDocument 86 = .ok (.aload_n 0, 1) := by decide +kernel
theorem dX7_tellDocument_87 : decode cX7_tellDocument 87 = .ok (.getfield 473, 3) := by decide +kernel
theorem dX7_tellDocument_90 : decode cX7_tellDocument 90 = .ok (.ireturn, 1) := by decide +kernel
theorem dX7_tellExhibit_0 : decode cX7_tellExhibit 0 = .ok (.iload_n 2, 1) := by decide +kernel
theorem dX7_tellExhibit_1 : decode cX7_tellExhibit 1 = .ok (.tableswitch 98 0 5 #[39, 47, 67, 72, 80, 85], 39) := by decide +kernel
theorem dX7_tellExhibit_40 : decode cX7_tellExhibit 40 = .ok (.aload_n 1, 1) := by decide +kernel
theorem dX7_tellExhibit_41 : decode cX7_tellExhibit 41 = .ok (.getfield 263, 3) := by decide +kernel
theorem dX7_tellExhibit_44 : decode cX7_tellExhibit 44 = .ok (.getfield 160, 3) := by decide +kernel
theorem dX7_tellExhibit_47 : decode cX7_tellExhibit 47 = .ok (.ireturn, 1) := by decide +kernel
theorem dX7_tellExhibit_48 : decode cX7_tellExhibit 48 = .ok (.aload_n 1, 1) := by decide +kernel
theorem dX7_tellExhibit_49 : decode cX7_tellExhibit 49 = .ok (.getfield 252, 3) := by decide +kernel
theorem dX7_tellExhibit_52 : decode cX7_tellExhibit 52 = .ok (.ifCond .eq 8, 3) := by decide +kernel
theorem dX7_tellExhibit_55 : decode cX7_tellExhibit 55 = .ok (.bipush (-2), 2) := by decide +kernel
theorem dX7_tellExhibit_57 : decode cX7_tellExhibit 57 = .ok (.goto 10, 3) := by decide +kernel
theorem dX7_tellExhibit_60 : decode cX7_tellExhibit 60 = .ok (.aload_n 1, 1) := by decide +kernel
theorem dX7_tellExhibit_61 : decode cX7_tellExhibit 61 = .ok (.getfield 256, 3) := by decide +kernel
theorem dX7_tellExhibit_64 : decode cX7_tellExhibit 64 = .ok (.invokestatic 232, 3) := by decide +kernel
theorem dX7_tellExhibit_67 : decode cX7_tellExhibit 67 = .ok (.ireturn, 1) := by decide +kernel
theorem dX7_tellExhibit_68 : decode cX7_tellExhibit 68 = .ok (.aload_n 1, 1) := by decide +kernel
theorem dX7_tellExhibit_69 : decode cX7_tellExhibit 69 = .ok (.getfield 285, 3) := by decide +kernel
theorem dX7_tellExhibit_72 : decode cX7_tellExhibit 72 = .ok (.ireturn, 1) := by decide +kernel
theorem dX7_tellExhibit_73 : decode cX7_tellExhibit 73 = .ok (.aload_n 1, 1) := by decide +kernel
theorem dX7_tellExhibit_74 : decode cX7_tellExhibit 74 = .ok (.getfield 278, 3) := by decide +kernel
theorem dX7_tellExhibit_77 : decode cX7_tellExhibit 77 = .ok (.invokevirtual 80, 3) := by decide +kernel
theorem dX7_tellExhibit_80 : decode cX7_tellExhibit 80 = .ok (.ireturn, 1) := by decide +kernel
theorem dX7_tellExhibit_81 : decode cX7_tellExhibit 81 = .ok (.aload_n 1, 1) := by decide +kernel
theorem dX7_tellExhibit_82 : decode cX7_tellExhibit 82 = .ok (.invokevirtual 476, 3) := by decide +kernel
theorem dX7_tellExhibit_85 : decode cX7_tellExhibit 85 = .ok (.ireturn, 1) := by decide +kernel
theorem dX7_tellExhibit_86 : decode cX7_tellExhibit 86 = .ok (.aload_n 1, 1) := by decide +kernel
theorem dX7_tellExhibit_87 : decode cX7_tellExhibit 87 = .ok (.invokevirtual 452, 3) := by decide +kernel
theorem dX7_tellExhibit_90 : decode cX7_tellExhibit 90 = .ok (.ifCond .eq 7, 3) := by decide +kernel
theorem dX7_tellExhibit_93 : decode cX7_tellExhibit 93 = .ok (.iconst 1, 1) := by decide +kernel
theorem dX7_tellExhibit_94 : decode cX7_tellExhibit 94 = .ok (.goto 4, 3) := by decide +kernel
theorem dX7_tellExhibit_97 : decode cX7_tellExhibit 97 = .ok (.iconst 0, 1) := by decide +kernel
theorem dX7_tellExhibit_98 : decode cX7_tellExhibit 98 = .ok (.ireturn, 1) := by decide +kernel
theorem dX7_tellExhibit_99 : decode cX7_tellExhibit 99 = .ok (.aload_n 0, 1) := by decide +kernel
theorem dX7_tellExhibit_100 : decode cX7_tellExhibit 100 = .ok (.aload_n 1, 1) := by decide +kernel
theorem dX7_tellExhibit_101 : decode cX7_tellExhibit 101 = .ok (.invokevirtual 479, 3) := by decide +kernel
theorem dX7_tellExhibit_104 : decode cX7_tellExhibit 104 = .ok (.ireturn, 1) := by decide +kernel
theorem dX7_countDocumentsThatMark_0 : decode cX7_countDocumentsThatMark 0 = .ok (.iconst 0, 1) := by decide +kernel
theorem dX7_countDocumentsThatMark_1 : decode cX7_countDocumentsThatMark 1 = .ok (.istore_n 2, 1) := by decide +kernel
theorem dX7_countDocumentsThatMark_2 : decode cX7_countDocumentsThatMark 2 = .ok (.iconst 0, 1) := by decide +kernel
theorem dX7_countDocumentsThatMark_3 : decode cX7_countDocumentsThatMark 3 = .ok (.istore_n 3, 1) := by decide +kernel
theorem dX7_countDocumentsThatMark_4 : decode cX7_countDocumentsThatMark 4 = .ok (.iload_n 3, 1) := by decide +kernel
theorem dX7_countDocumentsThatMark_5 : decode cX7_countDocumentsThatMark 5 = .ok (.aload_n 0, 1) := by decide +kernel
theorem dX7_countDocumentsThatMark_6 : decode cX7_countDocumentsThatMark 6 = .ok (.getfield 19, 3) := by decide +kernel
theorem dX7_countDocumentsThatMark_9 : decode cX7_countDocumentsThatMark 9 = .ok (.invokevirtual 80, 3) := by decide +kernel
theorem dX7_countDocumentsThatMark_12 : decode cX7_countDocumentsThatMark 12 = .ok (.if_icmp .ge 37, 3) := by decide +kernel
theorem dX7_countDocumentsThatMark_15 : decode cX7_countDocumentsThatMark 15 = .ok (.aload_n 0, 1) := by decide +kernel
theorem dX7_countDocumentsThatMark_16 : decode cX7_countDocumentsThatMark 16 = .ok (.getfield 19, 3) := by decide +kernel
theorem dX7_countDocumentsThatMark_19 : decode cX7_countDocumentsThatMark 19 = .ok (.iload_n 3, 1) := by decide +kernel
theorem dX7_countDocumentsThatMark_20 : decode cX7_countDocumentsThatMark 20 = .ok (.invokevirtual 300, 3) := by decide +kernel
theorem dX7_countDocumentsThatMark_23 : decode cX7_countDocumentsThatMark 23 = .ok (.checkcast 95, 3) := by decide +kernel
theorem dX7_countDocumentsThatMark_26 : decode cX7_countDocumentsThatMark 26 = .ok (.getfield 483, 3) := by decide +kernel
theorem dX7_countDocumentsThatMark_29 : decode cX7_countDocumentsThatMark 29 = .ok (.aload_n 1, 1) := by decide +kernel
theorem dX7_countDocumentsThatMark_30 : decode cX7_countDocumentsThatMark 30 = .ok (.getfield 485, 3) := by decide +kernel
theorem dX7_countDocumentsThatMark_33 : decode cX7_countDocumentsThatMark 33 = .ok (.ishr, 1) := by decide +kernel
theorem dX7_countDocumentsThatMark_34 : decode cX7_countDocumentsThatMark 34 = .ok (.iconst 1, 1) := by decide +kernel
theorem dX7_countDocumentsThatMark_35 : decode cX7_countDocumentsThatMark 35 = .ok (.iand, 1) := by decide +kernel
theorem dX7_countDocumentsThatMark_36 : decode cX7_countDocumentsThatMark 36 = .ok (.iconst 1, 1) := by decide +kernel
theorem dX7_countDocumentsThatMark_37 : decode cX7_countDocumentsThatMark 37 = .ok (.if_icmp .ne 6, 3) := by decide +kernel
theorem dX7_countDocumentsThatMark_40 : decode cX7_countDocumentsThatMark 40 = .ok (.iinc 2 1, 3) := by decide +kernel
theorem dX7_countDocumentsThatMark_43 : decode cX7_countDocumentsThatMark 43 = .ok (.iinc 3 1, 3) := by decide +kernel
theorem dX7_countDocumentsThatMark_46 : decode cX7_countDocumentsThatMark 46 = .ok (.goto (-42), 3) := by decide +kernel
theorem dX7_countDocumentsThatMark_49 : decode cX7_countDocumentsThatMark 49 = .ok (.iload_n 2, 1) := by decide +kernel
theorem dX7_countDocumentsThatMark_50 : decode cX7_countDocumentsThatMark 50 = .ok (.ireturn, 1) := by decide +kernel
theorem dX7_tellLink_0 : decode cX7_tellLink 0 = .ok (.iload_n 1, 1) := by decide +kernel
theorem dX7_tellLink_1 : decode cX7_tellLink 1 = .ok (.tableswitch 48 0 2 #[27, 32, 40], 27) := by decide +kernel
theorem dX7_tellLink_28 : decode cX7_tellLink 28 = .ok (.aload_n 0, 1) := by decide +kernel
theorem dX7_tellLink_29 : decode cX7_tellLink 29 = .ok (.getfield 486, 3) := by decide +kernel
theorem dX7_tellLink_32 : decode cX7_tellLink 32 = .ok (.ireturn, 1) := by decide +kernel
theorem dX7_tellLink_33 : decode cX7_tellLink 33 = .ok (.aload_n 0, 1) := by decide +kernel
theorem dX7_tellLink_34 : decode cX7_tellLink 34 = .ok (.getfield 487, 3) := by decide +kernel
theorem dX7_tellLink_37 : decode cX7_tellLink 37 = .ok (.invokestatic 232, 3) := by decide +kernel
theorem dX7_tellLink_40 : decode cX7_tellLink 40 = .ok (.ireturn, 1) := by decide +kernel
theorem dX7_tellLink_41 : decode cX7_tellLink 41 = .ok (.aload_n 0, 1) := by decide +kernel
theorem dX7_tellLink_42 : decode cX7_tellLink 42 = .ok (.getfield 490, 3) := by decide +kernel
theorem dX7_tellLink_45 : decode cX7_tellLink 45 = .ok (.invokestatic 232, 3) := by decide +kernel
theorem dX7_tellLink_48 : decode cX7_tellLink 48 = .ok (.ireturn, 1) := by decide +kernel
theorem dX7_tellLink_49 : decode cX7_tellLink 49 = .ok (.aload_n 0, 1) := by decide +kernel
theorem dX7_tellLink_50 : decode cX7_tellLink 50 = .ok (.getfield 493, 3) := by decide +kernel
theorem dX7_tellLink_53 : decode cX7_tellLink 53 = .ok (.ireturn, 1) := by decide +kernel
theorem dX7_tellLetter_0 : decode cX7_tellLetter 0 = .ok (.iload_n 1, 1) := by decide +kernel
theorem dX7_tellLetter_1 : decode cX7_tellLetter 1 = .ok (.tableswitch 54 0 3 #[31, 36, 44, 49], 31) := by decide +kernel
theorem dX7_tellLetter_32 : decode cX7_tellLetter 32 = .ok (.aload_n 0, 1) := by decide +kernel
theorem dX7_tellLetter_33 : decode cX7_tellLetter 33 = .ok (.getfield 496, 3) := by decide +kernel
theorem dX7_tellLetter_36 : decode cX7_tellLetter 36 = .ok (.ireturn, 1) := by decide +kernel
theorem dX7_tellLetter_37 : decode cX7_tellLetter 37 = .ok (.aload_n 0, 1) := by decide +kernel
theorem dX7_tellLetter_38 : decode cX7_tellLetter 38 = .ok (.getfield 351, 3) := by decide +kernel
theorem dX7_tellLetter_41 : decode cX7_tellLetter 41 = .ok (.getfield 397, 3) := by decide +kernel
theorem dX7_tellLetter_44 : decode cX7_tellLetter 44 = .ok (.ireturn, 1) := by decide +kernel
theorem dX7_tellLetter_45 : decode cX7_tellLetter 45 = .ok (.aload_n 0, 1) := by decide +kernel
theorem dX7_tellLetter_46 : decode cX7_tellLetter 46 = .ok (.getfield 411, 3) := by decide +kernel
theorem dX7_tellLetter_49 : decode cX7_tellLetter 49 = .ok (.ireturn, 1) := by decide +kernel
theorem dX7_tellLetter_50 : decode cX7_tellLetter 50 = .ok (.aload_n 0, 1) := by decide +kernel
theorem dX7_tellLetter_51 : decode cX7_tellLetter 51 = .ok (.getfield 337, 3) := by decide +kernel
theorem dX7_tellLetter_54 : decode cX7_tellLetter 54 = .ok (.ireturn, 1) := by decide +kernel
theorem dX7_tellLetter_55 : decode cX7_tellLetter 55 = .ok (.aload_n 0, 1) := by decide +kernel
theorem dX7_tellLetter_56 : decode cX7_tellLetter 56 = .ok (.getfield 414, 3) := by decide +kernel
theorem dX7_tellLetter_59 : decode cX7_tellLetter 59 = .ok (.ireturn, 1) := by decide +kernel
theorem dX7_digestCases_0 : decode cX7_digestCases 0 = .ok (.lload_n 1, 1) := by decide +kernel
theorem dX7_digestCases_1 : decode cX7_digestCases 1 = .ok (.lstore_n 3, 1) := by decide +kernel
theorem dX7_digestCases_2 : decode cX7_digestCases 2 = .ok (.iconst 0, 1) := by decide +kernel
theorem dX7_digestCases_3 : decode cX7_digestCases 3 = .ok (.istore 5, 2) := by decide +kernel
theorem dX7_digestCases_5 : decode cX7_digestCases 5 = .ok (.iload 5, 2) := by decide +kernel
theorem dX7_digestCases_7 : decode cX7_digestCases 7 = .ok (.aload_n 0, 1) := by decide +kernel
theorem dX7_digestCases_8 : decode cX7_digestCases 8 = .ok (.getfield 12, 3) := by decide +kernel
theorem dX7_digestCases_11 : decode cX7_digestCases 11 = .ok (.invokevirtual 80, 3) := by decide +kernel
theorem dX7_digestCases_14 : decode cX7_digestCases 14 = .ok (.if_icmp .ge 50, 3) := by decide +kernel
theorem dX7_digestCases_17 : decode cX7_digestCases 17 = .ok (.iconst 0, 1) := by decide +kernel
theorem dX7_digestCases_18 : decode cX7_digestCases 18 = .ok (.istore 6, 2) := by decide +kernel
theorem dX7_digestCases_20 : decode cX7_digestCases 20 = .ok (.iload 6, 2) := by decide +kernel
theorem dX7_digestCases_22 : decode cX7_digestCases 22 = .ok (.iconst 4, 1) := by decide +kernel
theorem dX7_digestCases_23 : decode cX7_digestCases 23 = .ok (.if_icmp .gt 35, 3) := by decide +kernel
theorem dX7_digestCases_26 : decode cX7_digestCases 26 = .ok (.lload_n 3, 1) := by decide +kernel
theorem dX7_digestCases_27 : decode cX7_digestCases 27 = .ok (.ldc2_w 379, 3) := by decide +kernel
theorem dX7_digestCases_30 : decode cX7_digestCases 30 = .ok (.lmul, 1) := by decide +kernel
theorem dX7_digestCases_31 : decode cX7_digestCases 31 = .ok (.aload_n 0, 1) := by decide +kernel
theorem dX7_digestCases_32 : decode cX7_digestCases 32 = .ok (.aload_n 0, 1) := by decide +kernel
theorem dX7_digestCases_33 : decode cX7_digestCases 33 = .ok (.getfield 12, 3) := by decide +kernel
theorem dX7_digestCases_36 : decode cX7_digestCases 36 = .ok (.iload 5, 2) := by decide +kernel
theorem dX7_digestCases_38 : decode cX7_digestCases 38 = .ok (.invokevirtual 300, 3) := by decide +kernel
theorem dX7_digestCases_41 : decode cX7_digestCases 41 = .ok (.checkcast 134, 3) := by decide +kernel
theorem dX7_digestCases_44 : decode cX7_digestCases 44 = .ok (.iload 6, 2) := by decide +kernel
theorem dX7_digestCases_46 : decode cX7_digestCases 46 = .ok (.invokevirtual 175, 3) := by decide +kernel
theorem dX7_digestCases_49 : decode cX7_digestCases 49 = .ok (.i2l, 1) := by decide +kernel
theorem dX7_digestCases_50 : decode cX7_digestCases 50 = .ok (.ladd, 1) := by decide +kernel
theorem dX7_digestCases_51 : decode cX7_digestCases 51 = .ok (.lstore_n 3, 1) := by decide +kernel
theorem dX7_digestCases_52 : decode cX7_digestCases 52 = .ok (.iinc 6 1, 3) := by decide +kernel
theorem dX7_digestCases_55 : decode cX7_digestCases 55 = .ok (.goto (-35), 3) := by decide +kernel
theorem dX7_digestCases_58 : decode cX7_digestCases 58 = .ok (.iinc 5 1, 3) := by decide +kernel
theorem dX7_digestCases_61 : decode cX7_digestCases 61 = .ok (.goto (-56), 3) := by decide +kernel
theorem dX7_digestCases_64 : decode cX7_digestCases 64 = .ok (.lload_n 3, 1) := by decide +kernel
theorem dX7_digestCases_65 : decode cX7_digestCases 65 = .ok (.lreturn, 1) := by decide +kernel
theorem dX7_digestPeople_0 : decode cX7_digestPeople 0 = .ok (.lload_n 1, 1) := by decide +kernel
theorem dX7_digestPeople_1 : decode cX7_digestPeople 1 = .ok (.lstore_n 3, 1) := by decide +kernel
theorem dX7_digestPeople_2 : decode cX7_digestPeople 2 = .ok (.iconst 0, 1) := by decide +kernel
theorem dX7_digestPeople_3 : decode cX7_digestPeople 3 = .ok (.istore 5, 2) := by decide +kernel
theorem dX7_digestPeople_5 : decode cX7_digestPeople 5 = .ok (.iload 5, 2) := by decide +kernel
theorem dX7_digestPeople_7 : decode cX7_digestPeople 7 = .ok (.aload_n 0, 1) := by decide +kernel
theorem dX7_digestPeople_8 : decode cX7_digestPeople 8 = .ok (.getfield 16, 3) := by decide +kernel
theorem dX7_digestPeople_11 : decode cX7_digestPeople 11 = .ok (.invokevirtual 80, 3) := by decide +kernel
theorem dX7_digestPeople_14 : decode cX7_digestPeople 14 = .ok (.if_icmp .ge 51, 3) := by decide +kernel
theorem dX7_digestPeople_17 : decode cX7_digestPeople 17 = .ok (.iconst 0, 1) := by decide +kernel
theorem dX7_digestPeople_18 : decode cX7_digestPeople 18 = .ok (.istore 6, 2) := by decide +kernel
theorem dX7_digestPeople_20 : decode cX7_digestPeople 20 = .ok (.iload 6, 2) := by decide +kernel
theorem dX7_digestPeople_22 : decode cX7_digestPeople 22 = .ok (.bipush 7, 2) := by decide +kernel
theorem dX7_digestPeople_24 : decode cX7_digestPeople 24 = .ok (.if_icmp .gt 35, 3) := by decide +kernel
theorem dX7_digestPeople_27 : decode cX7_digestPeople 27 = .ok (.lload_n 3, 1) := by decide +kernel
theorem dX7_digestPeople_28 : decode cX7_digestPeople 28 = .ok (.ldc2_w 379, 3) := by decide +kernel
theorem dX7_digestPeople_31 : decode cX7_digestPeople 31 = .ok (.lmul, 1) := by decide +kernel
theorem dX7_digestPeople_32 : decode cX7_digestPeople 32 = .ok (.aload_n 0, 1) := by decide +kernel
theorem dX7_digestPeople_33 : decode cX7_digestPeople 33 = .ok (.aload_n 0, 1) := by decide +kernel
theorem dX7_digestPeople_34 : decode cX7_digestPeople 34 = .ok (.getfield 16, 3) := by decide +kernel
theorem dX7_digestPeople_37 : decode cX7_digestPeople 37 = .ok (.iload 5, 2) := by decide +kernel
theorem dX7_digestPeople_39 : decode cX7_digestPeople 39 = .ok (.invokevirtual 300, 3) := by decide +kernel
theorem dX7_digestPeople_42 : decode cX7_digestPeople 42 = .ok (.checkcast 146, 3) := by decide +kernel
theorem dX7_digestPeople_45 : decode cX7_digestPeople 45 = .ok (.iload 6, 2) := by decide +kernel
theorem dX7_digestPeople_47 : decode cX7_digestPeople 47 = .ok (.invokevirtual 169, 3) := by decide +kernel
theorem dX7_digestPeople_50 : decode cX7_digestPeople 50 = .ok (.i2l, 1) := by decide +kernel
theorem dX7_digestPeople_51 : decode cX7_digestPeople 51 = .ok (.ladd, 1) := by decide +kernel
theorem dX7_digestPeople_52 : decode cX7_digestPeople 52 = .ok (.lstore_n 3, 1) := by decide +kernel
theorem dX7_digestPeople_53 : decode cX7_digestPeople 53 = .ok (.iinc 6 1, 3) := by decide +kernel
theorem dX7_digestPeople_56 : decode cX7_digestPeople 56 = .ok (.goto (-36), 3) := by decide +kernel
theorem dX7_digestPeople_59 : decode cX7_digestPeople 59 = .ok (.iinc 5 1, 3) := by decide +kernel
theorem dX7_digestPeople_62 : decode cX7_digestPeople 62 = .ok (.goto (-57), 3) := by decide +kernel
theorem dX7_digestPeople_65 : decode cX7_digestPeople 65 = .ok (.lload_n 3, 1) := by decide +kernel
theorem dX7_digestPeople_66 : decode cX7_digestPeople 66 = .ok (.lreturn, 1) := by decide +kernel
theorem dX7_digestDocuments_0 : decode cX7_digestDocuments 0 = .ok (.lload_n 1, 1) := by decide +kernel
theorem dX7_digestDocuments_1 : decode cX7_digestDocuments 1 = .ok (.lstore_n 3, 1) := by decide +kernel
theorem dX7_digestDocuments_2 : decode cX7_digestDocuments 2 = .ok (.iconst 0, 1) := by decide +kernel
theorem dX7_digestDocuments_3 : decode cX7_digestDocuments 3 = .ok (.istore 5, 2) := by decide +kernel
theorem dX7_digestDocuments_5 : decode cX7_digestDocuments 5 = .ok (.iload 5, 2) := by decide +kernel
theorem dX7_digestDocuments_7 : decode cX7_digestDocuments 7 = .ok (.aload_n 0, 1) := by decide +kernel
theorem dX7_digestDocuments_8 : decode cX7_digestDocuments 8 = .ok (.getfield 19, 3) := by decide +kernel
theorem dX7_digestDocuments_11 : decode cX7_digestDocuments 11 = .ok (.invokevirtual 80, 3) := by decide +kernel
theorem dX7_digestDocuments_14 : decode cX7_digestDocuments 14 = .ok (.if_icmp .ge 117, 3) := by decide +kernel
theorem dX7_digestDocuments_17 : decode cX7_digestDocuments 17 = .ok (.aload_n 0, 1) := by decide +kernel
theorem dX7_digestDocuments_18 : decode cX7_digestDocuments 18 = .ok (.getfield 19, 3) := by decide +kernel
theorem dX7_digestDocuments_21 : decode cX7_digestDocuments 21 = .ok (.iload 5, 2) := by decide +kernel
theorem dX7_digestDocuments_23 : decode cX7_digestDocuments 23 = .ok (.invokevirtual 300, 3) := by decide +kernel
theorem dX7_digestDocuments_26 : decode cX7_digestDocuments 26 = .ok (.checkcast 95, 3) := by decide +kernel
theorem dX7_digestDocuments_29 : decode cX7_digestDocuments 29 = .ok (.astore 6, 2) := by decide +kernel
theorem dX7_digestDocuments_31 : decode cX7_digestDocuments 31 = .ok (.iconst 0, 1) := by decide +kernel
theorem dX7_digestDocuments_32 : decode cX7_digestDocuments 32 = .ok (.istore 7, 2) := by decide +kernel
theorem dX7_digestDocuments_34 : decode cX7_digestDocuments 34 = .ok (.iload 7, 2) := by decide +kernel
theorem dX7_digestDocuments_36 : decode cX7_digestDocuments 36 = .ok (.bipush 7, 2) := by decide +kernel
theorem dX7_digestDocuments_38 : decode cX7_digestDocuments 38 = .ok (.if_icmp .gt 24, 3) := by decide +kernel
theorem dX7_digestDocuments_41 : decode cX7_digestDocuments 41 = .ok (.lload_n 3, 1) := by decide +kernel
theorem dX7_digestDocuments_42 : decode cX7_digestDocuments 42 = .ok (.ldc2_w 379, 3) := by decide +kernel
theorem dX7_digestDocuments_45 : decode cX7_digestDocuments 45 = .ok (.lmul, 1) := by decide +kernel
theorem dX7_digestDocuments_46 : decode cX7_digestDocuments 46 = .ok (.aload 6, 2) := by decide +kernel
theorem dX7_digestDocuments_48 : decode cX7_digestDocuments 48 = .ok (.iload 7, 2) := by decide +kernel
theorem dX7_digestDocuments_50 : decode cX7_digestDocuments 50 = .ok (.invokestatic 126, 3) := by decide +kernel
theorem dX7_digestDocuments_53 : decode cX7_digestDocuments 53 = .ok (.i2l, 1) := by decide +kernel
theorem dX7_digestDocuments_54 : decode cX7_digestDocuments 54 = .ok (.ladd, 1) := by decide +kernel
theorem dX7_digestDocuments_55 : decode cX7_digestDocuments 55 = .ok (.lstore_n 3, 1) := by decide +kernel
theorem dX7_digestDocuments_56 : decode cX7_digestDocuments 56 = .ok (.iinc 7 1, 3) := by decide +kernel
theorem dX7_digestDocuments_59 : decode cX7_digestDocuments 59 = .ok (.goto (-25), 3) := by decide +kernel
theorem dX7_digestDocuments_62 : decode cX7_digestDocuments 62 = .ok (.iconst 0, 1) := by decide +kernel
theorem dX7_digestDocuments_63 : decode cX7_digestDocuments 63 = .ok (.istore 7, 2) := by decide +kernel
theorem dX7_digestDocuments_65 : decode cX7_digestDocuments 65 = .ok (.iload 7, 2) := by decide +kernel
theorem dX7_digestDocuments_67 : decode cX7_digestDocuments 67 = .ok (.aload 6, 2) := by decide +kernel
theorem dX7_digestDocuments_69 : decode cX7_digestDocuments 69 = .ok (.getfield 202, 3) := by decide +kernel
theorem dX7_digestDocuments_72 : decode cX7_digestDocuments 72 = .ok (.arraylength, 1) := by decide +kernel
theorem dX7_digestDocuments_73 : decode cX7_digestDocuments 73 = .ok (.if_icmp .ge 52, 3) := by decide +kernel
theorem dX7_digestDocuments_76 : decode cX7_digestDocuments 76 = .ok (.iload 7, 2) := by decide +kernel
theorem dX7_digestDocuments_78 : decode cX7_digestDocuments 78 = .ok (.aload 6, 2) := by decide +kernel
theorem dX7_digestDocuments_80 : decode cX7_digestDocuments 80 = .ok (.getfield 499, 3) := by decide +kernel
theorem dX7_digestDocuments_83 : decode cX7_digestDocuments 83 = .ok (.arraylength, 1) := by decide +kernel
theorem dX7_digestDocuments_84 : decode cX7_digestDocuments 84 = .ok (.if_icmp .ge 41, 3) := by decide +kernel
theorem dX7_digestDocuments_87 : decode cX7_digestDocuments 87 = .ok (.lload_n 3, 1) := by decide +kernel
theorem dX7_digestDocuments_88 : decode cX7_digestDocuments 88 = .ok (.ldc2_w 379, 3) := by decide +kernel
theorem dX7_digestDocuments_91 : decode cX7_digestDocuments 91 = .ok (.lmul, 1) := by decide +kernel
theorem dX7_digestDocuments_92 : decode cX7_digestDocuments 92 = .ok (.aload 6, 2) := by decide +kernel
theorem dX7_digestDocuments_94 : decode cX7_digestDocuments 94 = .ok (.getfield 202, 3) := by decide +kernel
theorem dX7_digestDocuments_97 : decode cX7_digestDocuments 97 = .ok (.iload 7, 2) := by decide +kernel
theorem dX7_digestDocuments_99 : decode cX7_digestDocuments 99 = .ok (.baload, 1) := by decide +kernel
theorem dX7_digestDocuments_100 : decode cX7_digestDocuments 100 = .ok (.i2l, 1) := by decide +kernel
theorem dX7_digestDocuments_101 : decode cX7_digestDocuments 101 = .ok (.ladd, 1) := by decide +kernel
theorem dX7_digestDocuments_102 : decode cX7_digestDocuments 102 = .ok (.lstore_n 3, 1) := by decide +kernel
theorem dX7_digestDocuments_103 : decode cX7_digestDocuments 103 = .ok (.lload_n 3, 1) := by decide +kernel
theorem dX7_digestDocuments_104 : decode cX7_digestDocuments 104 = .ok (.ldc2_w 379, 3) := by decide +kernel
theorem dX7_digestDocuments_107 : decode cX7_digestDocuments 107 = .ok (.lmul, 1) := by decide +kernel
theorem dX7_digestDocuments_108 : decode cX7_digestDocuments 108 = .ok (.aload 6, 2) := by decide +kernel
theorem dX7_digestDocuments_110 : decode cX7_digestDocuments 110 = .ok (.getfield 499, 3) := by decide +kernel
theorem dX7_digestDocuments_113 : decode cX7_digestDocuments 113 = .ok (.iload 7, 2) := by decide +kernel
theorem dX7_digestDocuments_115 : decode cX7_digestDocuments 115 = .ok (.baload, 1) := by decide +kernel
theorem dX7_digestDocuments_116 : decode cX7_digestDocuments 116 = .ok (.i2l, 1) := by decide +kernel
theorem dX7_digestDocuments_117 : decode cX7_digestDocuments 117 = .ok (.ladd, 1) := by decide +kernel
theorem dX7_digestDocuments_118 : decode cX7_digestDocuments 118 = .ok (.lstore_n 3, 1) := by decide +kernel
theorem dX7_digestDocuments_119 : decode cX7_digestDocuments 119 = .ok (.iinc 7 1, 3) := by decide +kernel
theorem dX7_digestDocuments_122 : decode cX7_digestDocuments 122 = .ok (.goto (-57), 3) := by decide +kernel
theorem dX7_digestDocuments_125 : decode cX7_digestDocuments 125 = .ok (.iinc 5 1, 3) := by decide +kernel
theorem dX7_digestDocuments_128 : decode cX7_digestDocuments 128 = .ok (.goto (-123), 3) := by decide +kernel
theorem dX7_digestDocuments_131 : decode cX7_digestDocuments 131 = .ok (.lload_n 3, 1) := by decide +kernel
theorem dX7_digestDocuments_132 : decode cX7_digestDocuments 132 = .ok (.lreturn, 1) := by decide +kernel
theorem dX7_digestExhibits_0 : decode cX7_digestExhibits 0 = .ok (.lload_n 1, 1) := by decide +kernel
theorem dX7_digestExhibits_1 : decode cX7_digestExhibits 1 = .ok (.lstore_n 3, 1) := by decide +kernel
theorem dX7_digestExhibits_2 : decode cX7_digestExhibits 2 = .ok (.iconst 0, 1) := by decide +kernel
theorem dX7_digestExhibits_3 : decode cX7_digestExhibits 3 = .ok (.istore 5, 2) := by decide +kernel
theorem dX7_digestExhibits_5 : decode cX7_digestExhibits 5 = .ok (.iload 5, 2) := by decide +kernel
theorem dX7_digestExhibits_7 : decode cX7_digestExhibits 7 = .ok (.aload_n 0, 1) := by decide +kernel
theorem dX7_digestExhibits_8 : decode cX7_digestExhibits 8 = .ok (.getfield 22, 3) := by decide +kernel
theorem dX7_digestExhibits_11 : decode cX7_digestExhibits 11 = .ok (.invokevirtual 80, 3) := by decide +kernel
theorem dX7_digestExhibits_14 : decode cX7_digestExhibits 14 = .ok (.if_icmp .ge 118, 3) := by decide +kernel
theorem dX7_digestExhibits_17 : decode cX7_digestExhibits 17 = .ok (.aload_n 0, 1) := by decide +kernel
theorem dX7_digestExhibits_18 : decode cX7_digestExhibits 18 = .ok (.getfield 22, 3) := by decide +kernel
theorem dX7_digestExhibits_21 : decode cX7_digestExhibits 21 = .ok (.iload 5, 2) := by decide +kernel
theorem dX7_digestExhibits_23 : decode cX7_digestExhibits 23 = .ok (.invokevirtual 300, 3) := by decide +kernel
theorem dX7_digestExhibits_26 : decode cX7_digestExhibits 26 = .ok (.checkcast 241, 3) := by decide +kernel
theorem dX7_digestExhibits_29 : decode cX7_digestExhibits 29 = .ok (.astore 6, 2) := by decide +kernel
theorem dX7_digestExhibits_31 : decode cX7_digestExhibits 31 = .ok (.iconst 0, 1) := by decide +kernel
theorem dX7_digestExhibits_32 : decode cX7_digestExhibits 32 = .ok (.istore 7, 2) := by decide +kernel
theorem dX7_digestExhibits_34 : decode cX7_digestExhibits 34 = .ok (.iload 7, 2) := by decide +kernel
theorem dX7_digestExhibits_36 : decode cX7_digestExhibits 36 = .ok (.bipush 6, 2) := by decide +kernel
theorem dX7_digestExhibits_38 : decode cX7_digestExhibits 38 = .ok (.if_icmp .gt 25, 3) := by decide +kernel
theorem dX7_digestExhibits_41 : decode cX7_digestExhibits 41 = .ok (.lload_n 3, 1) := by decide +kernel
theorem dX7_digestExhibits_42 : decode cX7_digestExhibits 42 = .ok (.ldc2_w 379, 3) := by decide +kernel
theorem dX7_digestExhibits_45 : decode cX7_digestExhibits 45 = .ok (.lmul, 1) := by decide +kernel
theorem dX7_digestExhibits_46 : decode cX7_digestExhibits 46 = .ok (.aload_n 0, 1) := by decide +kernel
theorem dX7_digestExhibits_47 : decode cX7_digestExhibits 47 = .ok (.aload 6, 2) := by decide +kernel
theorem dX7_digestExhibits_49 : decode cX7_digestExhibits 49 = .ok (.iload 7, 2) := by decide +kernel
theorem dX7_digestExhibits_51 : decode cX7_digestExhibits 51 = .ok (.invokevirtual 294, 3) := by decide +kernel
theorem dX7_digestExhibits_54 : decode cX7_digestExhibits 54 = .ok (.i2l, 1) := by decide +kernel
theorem dX7_digestExhibits_55 : decode cX7_digestExhibits 55 = .ok (.ladd, 1) := by decide +kernel
theorem dX7_digestExhibits_56 : decode cX7_digestExhibits 56 = .ok (.lstore_n 3, 1) := by decide +kernel
theorem dX7_digestExhibits_57 : decode cX7_digestExhibits 57 = .ok (.iinc 7 1, 3) := by decide +kernel
theorem dX7_digestExhibits_60 : decode cX7_digestExhibits 60 = .ok (.goto (-26), 3) := by decide +kernel
theorem dX7_digestExhibits_63 : decode cX7_digestExhibits 63 = .ok (.iconst 0, 1) := by decide +kernel
theorem dX7_digestExhibits_64 : decode cX7_digestExhibits 64 = .ok (.istore 7, 2) := by decide +kernel
theorem dX7_digestExhibits_66 : decode cX7_digestExhibits 66 = .ok (.iload 7, 2) := by decide +kernel
theorem dX7_digestExhibits_68 : decode cX7_digestExhibits 68 = .ok (.aload 6, 2) := by decide +kernel
theorem dX7_digestExhibits_70 : decode cX7_digestExhibits 70 = .ok (.getfield 278, 3) := by decide +kernel
theorem dX7_digestExhibits_73 : decode cX7_digestExhibits 73 = .ok (.invokevirtual 80, 3) := by decide +kernel
theorem dX7_digestExhibits_76 : decode cX7_digestExhibits 76 = .ok (.if_icmp .ge 50, 3) := by decide +kernel
theorem dX7_digestExhibits_79 : decode cX7_digestExhibits 79 = .ok (.iconst 0, 1) := by decide +kernel
theorem dX7_digestExhibits_80 : decode cX7_digestExhibits 80 = .ok (.istore 8, 2) := by decide +kernel
theorem dX7_digestExhibits_82 : decode cX7_digestExhibits 82 = .ok (.iload 8, 2) := by decide +kernel
theorem dX7_digestExhibits_84 : decode cX7_digestExhibits 84 = .ok (.iconst 3, 1) := by decide +kernel
theorem dX7_digestExhibits_85 : decode cX7_digestExhibits 85 = .ok (.if_icmp .gt 35, 3) := by decide +kernel
theorem dX7_digestExhibits_88 : decode cX7_digestExhibits 88 = .ok (.lload_n 3, 1) := by decide +kernel
theorem dX7_digestExhibits_89 : decode cX7_digestExhibits 89 = .ok (.ldc2_w 379, 3) := by decide +kernel
theorem dX7_digestExhibits_92 : decode cX7_digestExhibits 92 = .ok (.lmul, 1) := by decide +kernel
theorem dX7_digestExhibits_93 : decode cX7_digestExhibits 93 = .ok (.aload 6, 2) := by decide +kernel
theorem dX7_digestExhibits_95 : decode cX7_digestExhibits 95 = .ok (.getfield 278, 3) := by decide +kernel
theorem dX7_digestExhibits_98 : decode cX7_digestExhibits 98 = .ok (.iload 7, 2) := by decide +kernel
theorem dX7_digestExhibits_100 : decode cX7_digestExhibits 100 = .ok (.invokevirtual 300, 3) := by decide +kernel
theorem dX7_digestExhibits_103 : decode cX7_digestExhibits 103 = .ok (.checkcast 269, 3) := by decide +kernel
theorem dX7_digestExhibits_106 : decode cX7_digestExhibits 106 = .ok (.iload 8, 2) := by decide +kernel
theorem dX7_digestExhibits_108 : decode cX7_digestExhibits 108 = .ok (.invokestatic 304, 3) := by decide +kernel
theorem dX7_digestExhibits_111 : decode cX7_digestExhibits 111 = .ok (.i2l, 1) := by decide +kernel
theorem dX7_digestExhibits_112 : decode cX7_digestExhibits 112 = .ok (.ladd, 1) := by decide +kernel
theorem dX7_digestExhibits_113 : decode cX7_digestExhibits 113 = .ok (.lstore_n 3, 1) := by decide +kernel
theorem dX7_digestExhibits_114 : decode cX7_digestExhibits 114 = .ok (.iinc 8 1, 3) := by decide +kernel
theorem dX7_digestExhibits_117 : decode cX7_digestExhibits 117 = .ok (.goto (-35), 3) := by decide +kernel
theorem dX7_digestExhibits_120 : decode cX7_digestExhibits 120 = .ok (.iinc 7 1, 3) := by decide +kernel
theorem dX7_digestExhibits_123 : decode cX7_digestExhibits 123 = .ok (.goto (-57), 3) := by decide +kernel
theorem dX7_digestExhibits_126 : decode cX7_digestExhibits 126 = .ok (.iinc 5 1, 3) := by decide +kernel
theorem dX7_digestExhibits_129 : decode cX7_digestExhibits 129 = .ok (.goto (-124), 3) := by decide +kernel
theorem dX7_digestExhibits_132 : decode cX7_digestExhibits 132 = .ok (.lload_n 3, 1) := by decide +kernel
theorem dX7_digestExhibits_133 : decode cX7_digestExhibits 133 = .ok (.lreturn, 1) := by decide +kernel
theorem dX7_digestLetters_0 : decode cX7_digestLetters 0 = .ok (.lload_n 1, 1) := by decide +kernel
theorem dX7_digestLetters_1 : decode cX7_digestLetters 1 = .ok (.lstore_n 3, 1) := by decide +kernel
theorem dX7_digestLetters_2 : decode cX7_digestLetters 2 = .ok (.iconst 0, 1) := by decide +kernel
theorem dX7_digestLetters_3 : decode cX7_digestLetters 3 = .ok (.istore 5, 2) := by decide +kernel
theorem dX7_digestLetters_5 : decode cX7_digestLetters 5 = .ok (.iload 5, 2) := by decide +kernel
theorem dX7_digestLetters_7 : decode cX7_digestLetters 7 = .ok (.aload_n 0, 1) := by decide +kernel
theorem dX7_digestLetters_8 : decode cX7_digestLetters 8 = .ok (.getfield 25, 3) := by decide +kernel
theorem dX7_digestLetters_11 : decode cX7_digestLetters 11 = .ok (.invokevirtual 80, 3) := by decide +kernel
theorem dX7_digestLetters_14 : decode cX7_digestLetters 14 = .ok (.if_icmp .ge 49, 3) := by decide +kernel
theorem dX7_digestLetters_17 : decode cX7_digestLetters 17 = .ok (.iconst 0, 1) := by decide +kernel
theorem dX7_digestLetters_18 : decode cX7_digestLetters 18 = .ok (.istore 6, 2) := by decide +kernel
theorem dX7_digestLetters_20 : decode cX7_digestLetters 20 = .ok (.iload 6, 2) := by decide +kernel
theorem dX7_digestLetters_22 : decode cX7_digestLetters 22 = .ok (.iconst 4, 1) := by decide +kernel
theorem dX7_digestLetters_23 : decode cX7_digestLetters 23 = .ok (.if_icmp .gt 34, 3) := by decide +kernel
theorem dX7_digestLetters_26 : decode cX7_digestLetters 26 = .ok (.lload_n 3, 1) := by decide +kernel
theorem dX7_digestLetters_27 : decode cX7_digestLetters 27 = .ok (.ldc2_w 379, 3) := by decide +kernel
theorem dX7_digestLetters_30 : decode cX7_digestLetters 30 = .ok (.lmul, 1) := by decide +kernel
theorem dX7_digestLetters_31 : decode cX7_digestLetters 31 = .ok (.aload_n 0, 1) := by decide +kernel
theorem dX7_digestLetters_32 : decode cX7_digestLetters 32 = .ok (.getfield 25, 3) := by decide +kernel
theorem dX7_digestLetters_35 : decode cX7_digestLetters 35 = .ok (.iload 5, 2) := by decide +kernel
theorem dX7_digestLetters_37 : decode cX7_digestLetters 37 = .ok (.invokevirtual 300, 3) := by decide +kernel
theorem dX7_digestLetters_40 : decode cX7_digestLetters 40 = .ok (.checkcast 312, 3) := by decide +kernel
theorem dX7_digestLetters_43 : decode cX7_digestLetters 43 = .ok (.iload 6, 2) := by decide +kernel
theorem dX7_digestLetters_45 : decode cX7_digestLetters 45 = .ok (.invokestatic 323, 3) := by decide +kernel
theorem dX7_digestLetters_48 : decode cX7_digestLetters 48 = .ok (.i2l, 1) := by decide +kernel
theorem dX7_digestLetters_49 : decode cX7_digestLetters 49 = .ok (.ladd, 1) := by decide +kernel
theorem dX7_digestLetters_50 : decode cX7_digestLetters 50 = .ok (.lstore_n 3, 1) := by decide +kernel
theorem dX7_digestLetters_51 : decode cX7_digestLetters 51 = .ok (.iinc 6 1, 3) := by decide +kernel
theorem dX7_digestLetters_54 : decode cX7_digestLetters 54 = .ok (.goto (-34), 3) := by decide +kernel
theorem dX7_digestLetters_57 : decode cX7_digestLetters 57 = .ok (.iinc 5 1, 3) := by decide +kernel
theorem dX7_digestLetters_60 : decode cX7_digestLetters 60 = .ok (.goto (-55), 3) := by decide +kernel
theorem dX7_digestLetters_63 : decode cX7_digestLetters 63 = .ok (.lload_n 3, 1) := by decide +kernel
theorem dX7_digestLetters_64 : decode cX7_digestLetters 64 = .ok (.lreturn, 1) := by decide +kernel
theorem dX8_init_0 : decode cX8_init 0 = .ok (.aload_n 0, 1) := by decide +kernel
theorem dX8_init_1 : decode cX8_init 1 = .ok (.aload_n 1, 1) := by decide +kernel
theorem dX8_init_2 : decode cX8_init 2 = .ok (.putfield 3, 3) := by decide +kernel
theorem dX8_init_5 : decode cX8_init 5 = .ok (.aload_n 0, 1) := by decide +kernel
theorem dX8_init_6 : decode cX8_init 6 = .ok (.invokespecial 9, 3) := by decide +kernel
theorem dX8_init_9 : decode cX8_init 9 = .ok (.aload_n 0, 1) := by decide +kernel
theorem dX8_init_10 : decode cX8_init 10 = .ok (.bipush 12, 2) := by decide +kernel
theorem dX8_init_12 : decode cX8_init 12 = .ok (.newarray .int, 2) := by decide +kernel
theorem dX8_init_14 : decode cX8_init 14 = .ok (.putfield 15, 3) := by decide +kernel
theorem dX8_init_17 : decode cX8_init 17 = .ok (.aload_n 0, 1) := by decide +kernel
theorem dX8_init_18 : decode cX8_init 18 = .ok (.bipush 12, 2) := by decide +kernel
theorem dX8_init_20 : decode cX8_init 20 = .ok (.newarray .int, 2) := by decide +kernel
theorem dX8_init_22 : decode cX8_init 22 = .ok (.putfield 19, 3) := by decide +kernel
theorem dX8_init_25 : decode cX8_init 25 = .ok (.aload_n 0, 1) := by decide +kernel
theorem dX8_init_26 : decode cX8_init 26 = .ok (.bipush 24, 2) := by decide +kernel
theorem dX8_init_28 : decode cX8_init 28 = .ok (.newarray .int, 2) := by decide +kernel
theorem dX8_init_30 : decode cX8_init 30 = .ok (.putfield 22, 3) := by decide +kernel
theorem dX8_init_33 : decode cX8_init 33 = .ok (.aload_n 0, 1) := by decide +kernel
theorem dX8_init_34 : decode cX8_init 34 = .ok (.bipush 24, 2) := by decide +kernel
theorem dX8_init_36 : decode cX8_init 36 = .ok (.newarray .int, 2) := by decide +kernel
theorem dX8_init_38 : decode cX8_init 38 = .ok (.putfield 25, 3) := by decide +kernel
theorem dX8_init_41 : decode cX8_init 41 = .ok (.aload_n 0, 1) := by decide +kernel
theorem dX8_init_42 : decode cX8_init 42 = .ok (.bipush 24, 2) := by decide +kernel
theorem dX8_init_44 : decode cX8_init 44 = .ok (.newarray .int, 2) := by decide +kernel
theorem dX8_init_46 : decode cX8_init 46 = .ok (.putfield 28, 3) := by decide +kernel
theorem dX8_init_49 : decode cX8_init 49 = .ok (.aload_n 0, 1) := by decide +kernel
theorem dX8_init_50 : decode cX8_init 50 = .ok (.bipush 40, 2) := by decide +kernel
theorem dX8_init_52 : decode cX8_init 52 = .ok (.newarray .int, 2) := by decide +kernel
theorem dX8_init_54 : decode cX8_init 54 = .ok (.putfield 31, 3) := by decide +kernel
theorem dX8_init_57 : decode cX8_init 57 = .ok (.aload_n 0, 1) := by decide +kernel
theorem dX8_init_58 : decode cX8_init 58 = .ok (.bipush 40, 2) := by decide +kernel
theorem dX8_init_60 : decode cX8_init 60 = .ok (.newarray .int, 2) := by decide +kernel
theorem dX8_init_62 : decode cX8_init 62 = .ok (.putfield 34, 3) := by decide +kernel
theorem dX8_init_65 : decode cX8_init 65 = .ok (.return_, 1) := by decide +kernel
theorem dX8_copy_0 : decode cX8_copy 0 = .ok (.aload_n 1, 1) := by decide +kernel
theorem dX8_copy_1 : decode cX8_copy 1 = .ok (.iconst 0, 1) := by decide +kernel
theorem dX8_copy_2 : decode cX8_copy 2 = .ok (.aload_n 2, 1) := by decide +kernel
theorem dX8_copy_3 : decode cX8_copy 3 = .ok (.iconst 0, 1) := by decide +kernel
theorem dX8_copy_4 : decode cX8_copy 4 = .ok (.aload_n 1, 1) := by decide +kernel
theorem dX8_copy_5 : decode cX8_copy 5 = .ok (.arraylength, 1) := by decide +kernel
theorem dX8_copy_6 : decode cX8_copy 6 = .ok (.invokestatic 37, 3) := by decide +kernel
theorem dX8_copy_9 : decode cX8_copy 9 = .ok (.return_, 1) := by decide +kernel
theorem dX8_become_0 : decode cX8_become 0 = .ok (.aload_n 0, 1) := by decide +kernel
theorem dX8_become_1 : decode cX8_become 1 = .ok (.aload_n 1, 1) := by decide +kernel
theorem dX8_become_2 : decode cX8_become 2 = .ok (.getfield 43, 3) := by decide +kernel
theorem dX8_become_5 : decode cX8_become 5 = .ok (.putfield 43, 3) := by decide +kernel
theorem dX8_become_8 : decode cX8_become 8 = .ok (.aload_n 0, 1) := by decide +kernel
theorem dX8_become_9 : decode cX8_become 9 = .ok (.aload_n 1, 1) := by decide +kernel
theorem dX8_become_10 : decode cX8_become 10 = .ok (.getfield 15, 3) := by decide +kernel
theorem dX8_become_13 : decode cX8_become 13 = .ok (.aload_n 0, 1) := by decide +kernel
theorem dX8_become_14 : decode cX8_become 14 = .ok (.getfield 15, 3) := by decide +kernel
theorem dX8_become_17 : decode cX8_become 17 = .ok (.invokevirtual 47, 3) := by decide +kernel
theorem dX8_become_20 : decode cX8_become 20 = .ok (.aload_n 0, 1) := by decide +kernel
theorem dX8_become_21 : decode cX8_become 21 = .ok (.aload_n 1, 1) := by decide +kernel
theorem dX8_become_22 : decode cX8_become 22 = .ok (.getfield 19, 3) := by decide +kernel
theorem dX8_become_25 : decode cX8_become 25 = .ok (.aload_n 0, 1) := by decide +kernel
theorem dX8_become_26 : decode cX8_become 26 = .ok (.getfield 19, 3) := by decide +kernel
theorem dX8_become_29 : decode cX8_become 29 = .ok (.invokevirtual 47, 3) := by decide +kernel
theorem dX8_become_32 : decode cX8_become 32 = .ok (.aload_n 0, 1) := by decide +kernel
theorem dX8_become_33 : decode cX8_become 33 = .ok (.aload_n 1, 1) := by decide +kernel
theorem dX8_become_34 : decode cX8_become 34 = .ok (.getfield 22, 3) := by decide +kernel
theorem dX8_become_37 : decode cX8_become 37 = .ok (.aload_n 0, 1) := by decide +kernel
theorem dX8_become_38 : decode cX8_become 38 = .ok (.getfield 22, 3) := by decide +kernel
theorem dX8_become_41 : decode cX8_become 41 = .ok (.invokevirtual 47, 3) := by decide +kernel
theorem dX8_become_44 : decode cX8_become 44 = .ok (.aload_n 0, 1) := by decide +kernel
theorem dX8_become_45 : decode cX8_become 45 = .ok (.aload_n 1, 1) := by decide +kernel
theorem dX8_become_46 : decode cX8_become 46 = .ok (.getfield 25, 3) := by decide +kernel
theorem dX8_become_49 : decode cX8_become 49 = .ok (.aload_n 0, 1) := by decide +kernel
theorem dX8_become_50 : decode cX8_become 50 = .ok (.getfield 25, 3) := by decide +kernel
theorem dX8_become_53 : decode cX8_become 53 = .ok (.invokevirtual 47, 3) := by decide +kernel
theorem dX8_become_56 : decode cX8_become 56 = .ok (.aload_n 0, 1) := by decide +kernel
theorem dX8_become_57 : decode cX8_become 57 = .ok (.aload_n 1, 1) := by decide +kernel
theorem dX8_become_58 : decode cX8_become 58 = .ok (.getfield 28, 3) := by decide +kernel
theorem dX8_become_61 : decode cX8_become 61 = .ok (.aload_n 0, 1) := by decide +kernel
theorem dX8_become_62 : decode cX8_become 62 = .ok (.getfield 28, 3) := by decide +kernel
theorem dX8_become_65 : decode cX8_become 65 = .ok (.invokevirtual 47, 3) := by decide +kernel
theorem dX8_become_68 : decode cX8_become 68 = .ok (.aload_n 0, 1) := by decide +kernel
theorem dX8_become_69 : decode cX8_become 69 = .ok (.aload_n 1, 1) := by decide +kernel
theorem dX8_become_70 : decode cX8_become 70 = .ok (.getfield 31, 3) := by decide +kernel
theorem dX8_become_73 : decode cX8_become 73 = .ok (.aload_n 0, 1) := by decide +kernel
theorem dX8_become_74 : decode cX8_become 74 = .ok (.getfield 31, 3) := by decide +kernel
theorem dX8_become_77 : decode cX8_become 77 = .ok (.invokevirtual 47, 3) := by decide +kernel
theorem dX8_become_80 : decode cX8_become 80 = .ok (.aload_n 0, 1) := by decide +kernel
theorem dX8_become_81 : decode cX8_become 81 = .ok (.aload_n 1, 1) := by decide +kernel
theorem dX8_become_82 : decode cX8_become 82 = .ok (.getfield 34, 3) := by decide +kernel
theorem dX8_become_85 : decode cX8_become 85 = .ok (.aload_n 0, 1) := by decide +kernel
theorem dX8_become_86 : decode cX8_become 86 = .ok (.getfield 34, 3) := by decide +kernel
theorem dX8_become_89 : decode cX8_become 89 = .ok (.invokevirtual 47, 3) := by decide +kernel
theorem dX8_become_92 : decode cX8_become 92 = .ok (.return_, 1) := by decide +kernel
theorem dX8_reach_0 : decode cX8_reach 0 = .ok (.aload_n 0, 1) := by decide +kernel
theorem dX8_reach_1 : decode cX8_reach 1 = .ok (.getfield 3, 3) := by decide +kernel
theorem dX8_reach_4 : decode cX8_reach 4 = .ok (.getfield 51, 3) := by decide +kernel
theorem dX8_reach_7 : decode cX8_reach 7 = .ok (.iload_n 1, 1) := by decide +kernel
theorem dX8_reach_8 : decode cX8_reach 8 = .ok (.iaload, 1) := by decide +kernel
theorem dX8_reach_9 : decode cX8_reach 9 = .ok (.iconst 1, 1) := by decide +kernel
theorem dX8_reach_10 : decode cX8_reach 10 = .ok (.if_icmp .ne 6, 3) := by decide +kernel
theorem dX8_reach_13 : decode cX8_reach 13 = .ok (.bipush 9, 2) := by decide +kernel
theorem dX8_reach_15 : decode cX8_reach 15 = .ok (.ireturn, 1) := by decide +kernel
theorem dX8_reach_16 : decode cX8_reach 16 = .ok (.bipush 9, 2) := by decide +kernel
theorem dX8_reach_18 : decode cX8_reach 18 = .ok (.aload_n 0, 1) := by decide +kernel
theorem dX8_reach_19 : decode cX8_reach 19 = .ok (.getfield 15, 3) := by decide +kernel
theorem dX8_reach_22 : decode cX8_reach 22 = .ok (.iload_n 1, 1) := by decide +kernel
theorem dX8_reach_23 : decode cX8_reach 23 = .ok (.iaload, 1) := by decide +kernel
theorem dX8_reach_24 : decode cX8_reach 24 = .ok (.aload_n 0, 1) := by decide +kernel
theorem dX8_reach_25 : decode cX8_reach 25 = .ok (.getfield 3, 3) := by decide +kernel
theorem dX8_reach_28 : decode cX8_reach 28 = .ok (.getfield 54, 3) := by decide +kernel
theorem dX8_reach_31 : decode cX8_reach 31 = .ok (.iload_n 1, 1) := by decide +kernel
theorem dX8_reach_32 : decode cX8_reach 32 = .ok (.iaload, 1) := by decide +kernel
theorem dX8_reach_33 : decode cX8_reach 33 = .ok (.iload_n 2, 1) := by decide +kernel
theorem dX8_reach_34 : decode cX8_reach 34 = .ok (.ishr, 1) := by decide +kernel
theorem dX8_reach_35 : decode cX8_reach 35 = .ok (.iconst 1, 1) := by decide +kernel
theorem dX8_reach_36 : decode cX8_reach 36 = .ok (.iand, 1) := by decide +kernel
theorem dX8_reach_37 : decode cX8_reach 37 = .ok (.iconst 1, 1) := by decide +kernel
theorem dX8_reach_38 : decode cX8_reach 38 = .ok (.if_icmp .ne 7, 3) := by decide +kernel
theorem dX8_reach_41 : decode cX8_reach 41 = .ok (.iconst 2, 1) := by decide +kernel
theorem dX8_reach_42 : decode cX8_reach 42 = .ok (.goto 4, 3) := by decide +kernel
theorem dX8_reach_45 : decode cX8_reach 45 = .ok (.iconst 0, 1) := by decide +kernel
theorem dX8_reach_46 : decode cX8_reach 46 = .ok (.iadd, 1) := by decide +kernel
theorem dX8_reach_47 : decode cX8_reach 47 = .ok (.invokestatic 57, 3) := by decide +kernel
theorem dX8_reach_50 : decode cX8_reach 50 = .ok (.ireturn, 1) := by decide +kernel
theorem dX8_isIn_0 : decode cX8_isIn 0 = .ok (.aload_n 0, 1) := by decide +kernel
theorem dX8_isIn_1 : decode cX8_isIn 1 = .ok (.getfield 3, 3) := by decide +kernel
theorem dX8_isIn_4 : decode cX8_isIn 4 = .ok (.getfield 63, 3) := by decide +kernel
theorem dX8_isIn_7 : decode cX8_isIn 7 = .ok (.iload_n 2, 1) := by decide +kernel
theorem dX8_isIn_8 : decode cX8_isIn 8 = .ok (.iaload, 1) := by decide +kernel
theorem dX8_isIn_9 : decode cX8_isIn 9 = .ok (.aload_n 0, 1) := by decide +kernel
theorem dX8_isIn_10 : decode cX8_isIn 10 = .ok (.iload_n 1, 1) := by decide +kernel
theorem dX8_isIn_11 : decode cX8_isIn 11 = .ok (.iload_n 2, 1) := by decide +kernel
theorem dX8_isIn_12 : decode cX8_isIn 12 = .ok (.invokevirtual 66, 3) := by decide +kernel
theorem dX8_isIn_15 : decode cX8_isIn 15 = .ok (.if_icmp .gt 7, 3) := by decide +kernel
theorem dX8_isIn_18 : decode cX8_isIn 18 = .ok (.iconst 1, 1) := by decide +kernel
theorem dX8_isIn_19 : decode cX8_isIn 19 = .ok (.goto 4, 3) := by decide +kernel
theorem dX8_isIn_22 : decode cX8_isIn 22 = .ok (.iconst 0, 1) := by decide +kernel
theorem dX8_isIn_23 : decode cX8_isIn 23 = .ok (.ireturn, 1) := by decide +kernel
theorem dX8_next_0 : decode cX8_next 0 = .ok (.iconst (-1), 1) := by decide +kernel
theorem dX8_next_1 : decode cX8_next 1 = .ok (.istore_n 1, 1) := by decide +kernel
theorem dX8_next_2 : decode cX8_next 2 = .ok (.iconst 0, 1) := by decide +kernel
theorem dX8_next_3 : decode cX8_next 3 = .ok (.istore_n 2, 1) := by decide +kernel
theorem dX8_next_4 : decode cX8_next 4 = .ok (.iload_n 2, 1) := by decide +kernel
theorem dX8_next_5 : decode cX8_next 5 = .ok (.aload_n 0, 1) := by decide +kernel
theorem dX8_next_6 : decode cX8_next 6 = .ok (.getfield 3, 3) := by decide +kernel
theorem dX8_next_9 : decode cX8_next 9 = .ok (.getfield 69, 3) := by decide +kernel
theorem dX8_next_12 : decode cX8_next 12 = .ok (.if_icmp .ge 46, 3) := by decide +kernel
theorem dX8_next_15 : decode cX8_next 15 = .ok (.aload_n 0, 1) := by decide +kernel
theorem dX8_next_16 : decode cX8_next 16 = .ok (.getfield 31, 3) := by decide +kernel
theorem dX8_next_19 : decode cX8_next 19 = .ok (.iload_n 2, 1) := by decide +kernel
theorem dX8_next_20 : decode cX8_next 20 = .ok (.iaload, 1) := by decide +kernel
theorem dX8_next_21 : decode cX8_next 21 = .ok (.ifCond .ne 31, 3) := by decide +kernel
theorem dX8_next_24 : decode cX8_next 24 = .ok (.iload_n 1, 1) := by decide +kernel
theorem dX8_next_25 : decode cX8_next 25 = .ok (.iconst (-1), 1) := by decide +kernel
theorem dX8_next_26 : decode cX8_next 26 = .ok (.if_icmp .eq 24, 3) := by decide +kernel
theorem dX8_next_29 : decode cX8_next 29 = .ok (.aload_n 0, 1) := by decide +kernel
theorem dX8_next_30 : decode cX8_next 30 = .ok (.getfield 3, 3) := by decide +kernel
theorem dX8_next_33 : decode cX8_next 33 = .ok (.getfield 72, 3) := by decide +kernel
theorem dX8_next_36 : decode cX8_next 36 = .ok (.iload_n 2, 1) := by decide +kernel
theorem dX8_next_37 : decode cX8_next 37 = .ok (.iaload, 1) := by decide +kernel
theorem dX8_next_38 : decode cX8_next 38 = .ok (.aload_n 0, 1) := by decide +kernel
theorem dX8_next_39 : decode cX8_next 39 = .ok (.getfield 3, 3) := by decide +kernel
theorem dX8_next_42 : decode cX8_next 42 = .ok (.getfield 72, 3) := by decide +kernel
theorem dX8_next_45 : decode cX8_next 45 = .ok (.iload_n 1, 1) := by decide +kernel
theorem dX8_next_46 : decode cX8_next 46 = .ok (.iaload, 1) := by decide +kernel
theorem dX8_next_47 : decode cX8_next 47 = .ok (.if_icmp .ge 5, 3) := by decide +kernel
theorem dX8_next_50 : decode cX8_next 50 = .ok (.iload_n 2, 1) := by decide +kernel
theorem dX8_next_51 : decode cX8_next 51 = .ok (.istore_n 1, 1) := by decide +kernel
theorem dX8_next_52 : decode cX8_next 52 = .ok (.iinc 2 1, 3) := by decide +kernel
theorem dX8_next_55 : decode cX8_next 55 = .ok (.goto (-51), 3) := by decide +kernel
theorem dX8_next_58 : decode cX8_next 58 = .ok (.iload_n 1, 1) := by decide +kernel
theorem dX8_next_59 : decode cX8_next 59 = .ok (.ireturn, 1) := by decide +kernel
theorem dX8_pass_0 : decode cX8_pass 0 = .ok (.iconst 0, 1) := by decide +kernel
theorem dX8_pass_1 : decode cX8_pass 1 = .ok (.istore_n 1, 1) := by decide +kernel
theorem dX8_pass_2 : decode cX8_pass 2 = .ok (.iconst 3, 1) := by decide +kernel
theorem dX8_pass_3 : decode cX8_pass 3 = .ok (.aload_n 0, 1) := by decide +kernel
theorem dX8_pass_4 : decode cX8_pass 4 = .ok (.getfield 3, 3) := by decide +kernel
theorem dX8_pass_7 : decode cX8_pass 7 = .ok (.invokevirtual 75, 3) := by decide +kernel
theorem dX8_pass_10 : decode cX8_pass 10 = .ok (.imul, 1) := by decide +kernel
theorem dX8_pass_11 : decode cX8_pass 11 = .ok (.istore_n 2, 1) := by decide +kernel
theorem dX8_pass_12 : decode cX8_pass 12 = .ok (.iload_n 2, 1) := by decide +kernel
theorem dX8_pass_13 : decode cX8_pass 13 = .ok (.ifCond .le 116, 3) := by decide +kernel
theorem dX8_pass_16 : decode cX8_pass 16 = .ok (.aload_n 0, 1) := by decide +kernel
theorem dX8_pass_17 : decode cX8_pass 17 = .ok (.invokevirtual 79, 3) := by decide +kernel
theorem dX8_pass_20 : decode cX8_pass 20 = .ok (.istore_n 3, 1) := by decide +kernel
theorem dX8_pass_21 : decode cX8_pass 21 = .ok (.iload_n 3, 1) := by decide +kernel
theorem dX8_pass_22 : decode cX8_pass 22 = .ok (.iconst (-1), 1) := by decide +kernel
theorem dX8_pass_23 : decode cX8_pass 23 = .ok (.if_icmp .ne 6, 3) := by decide +kernel
theorem dX8_pass_26 : decode cX8_pass 26 = .ok (.goto 103, 3) := by decide +kernel
theorem dX8_pass_29 : decode cX8_pass 29 = .ok (.aload_n 0, 1) := by decide +kernel
theorem dX8_pass_30 : decode cX8_pass 30 = .ok (.aload_n 0, 1) := by decide +kernel
theorem dX8_pass_31 : decode cX8_pass 31 = .ok (.getfield 3, 3) := by decide +kernel
theorem dX8_pass_34 : decode cX8_pass 34 = .ok (.getfield 82, 3) := by decide +kernel
theorem dX8_pass_37 : decode cX8_pass 37 = .ok (.iload_n 3, 1) := by decide +kernel
theorem dX8_pass_38 : decode cX8_pass 38 = .ok (.iaload, 1) := by decide +kernel
theorem dX8_pass_39 : decode cX8_pass 39 = .ok (.aload_n 0, 1) := by decide +kernel
theorem dX8_pass_40 : decode cX8_pass 40 = .ok (.getfield 3, 3) := by decide +kernel
theorem dX8_pass_43 : decode cX8_pass 43 = .ok (.getfield 85, 3) := by decide +kernel
theorem dX8_pass_46 : decode cX8_pass 46 = .ok (.aload_n 0, 1) := by decide +kernel
theorem dX8_pass_47 : decode cX8_pass 47 = .ok (.getfield 3, 3) := by decide +kernel
theorem dX8_pass_50 : decode cX8_pass 50 = .ok (.getfield 88, 3) := by decide +kernel
theorem dX8_pass_53 : decode cX8_pass 53 = .ok (.iload_n 3, 1) := by decide +kernel
theorem dX8_pass_54 : decode cX8_pass 54 = .ok (.iaload, 1) := by decide +kernel
theorem dX8_pass_55 : decode cX8_pass 55 = .ok (.iaload, 1) := by decide +kernel
theorem dX8_pass_56 : decode cX8_pass 56 = .ok (.invokevirtual 91, 3) := by decide +kernel
theorem dX8_pass_59 : decode cX8_pass 59 = .ok (.istore 4, 2) := by decide +kernel
theorem dX8_pass_61 : decode cX8_pass 61 = .ok (.aload_n 0, 1) := by decide +kernel
theorem dX8_pass_62 : decode cX8_pass 62 = .ok (.getfield 31, 3) := by decide +kernel
theorem dX8_pass_65 : decode cX8_pass 65 = .ok (.iload_n 3, 1) := by decide +kernel
theorem dX8_pass_66 : decode cX8_pass 66 = .ok (.iload 4, 2) := by decide +kernel
theorem dX8_pass_68 : decode cX8_pass 68 = .ok (.ifCond .eq 7, 3) := by decide +kernel
theorem dX8_pass_71 : decode cX8_pass 71 = .ok (.iconst 1, 1) := by decide +kernel
theorem dX8_pass_72 : decode cX8_pass 72 = .ok (.goto 4, 3) := by decide +kernel
theorem dX8_pass_75 : decode cX8_pass 75 = .ok (.iconst 2, 1) := by decide +kernel
theorem dX8_pass_76 : decode cX8_pass 76 = .ok (.iastore, 1) := by decide +kernel
theorem dX8_pass_77 : decode cX8_pass 77 = .ok (.aload_n 0, 1) := by decide +kernel
theorem dX8_pass_78 : decode cX8_pass 78 = .ok (.getfield 34, 3) := by decide +kernel
theorem dX8_pass_81 : decode cX8_pass 81 = .ok (.iload_n 3, 1) := by decide +kernel
theorem dX8_pass_82 : decode cX8_pass 82 = .ok (.aload_n 0, 1) := by decide +kernel
theorem dX8_pass_83 : decode cX8_pass 83 = .ok (.getfield 43, 3) := by decide +kernel
theorem dX8_pass_86 : decode cX8_pass 86 = .ok (.iastore, 1) := by decide +kernel
theorem dX8_pass_87 : decode cX8_pass 87 = .ok (.iload 4, 2) := by decide +kernel
theorem dX8_pass_89 : decode cX8_pass 89 = .ok (.ifCond .eq 34, 3) := by decide +kernel
theorem dX8_pass_92 : decode cX8_pass 92 = .ok (.aload_n 0, 1) := by decide +kernel
theorem dX8_pass_93 : decode cX8_pass 93 = .ok (.getfield 28, 3) := by decide +kernel
theorem dX8_pass_96 : decode cX8_pass 96 = .ok (.aload_n 0, 1) := by decide +kernel
theorem dX8_pass_97 : decode cX8_pass 97 = .ok (.getfield 3, 3) := by decide +kernel
theorem dX8_pass_100 : decode cX8_pass 100 = .ok (.getfield 88, 3) := by decide +kernel
theorem dX8_pass_103 : decode cX8_pass 103 = .ok (.iload_n 3, 1) := by decide +kernel
theorem dX8_pass_104 : decode cX8_pass 104 = .ok (.iaload, 1) := by decide +kernel
theorem dX8_pass_105 : decode cX8_pass 105 = .ok (.dup2, 1) := by decide +kernel
theorem dX8_pass_106 : decode cX8_pass 106 = .ok (.iaload, 1) := by decide +kernel
theorem dX8_pass_107 : decode cX8_pass 107 = .ok (.iconst 1, 1) := by decide +kernel
theorem dX8_pass_108 : decode cX8_pass 108 = .ok (.aload_n 0, 1) := by decide +kernel
theorem dX8_pass_109 : decode cX8_pass 109 = .ok (.getfield 3, 3) := by decide +kernel
theorem dX8_pass_112 : decode cX8_pass 112 = .ok (.getfield 82, 3) := by decide +kernel
theorem dX8_pass_115 : decode cX8_pass 115 = .ok (.iload_n 3, 1) := by decide +kernel
theorem dX8_pass_116 : decode cX8_pass 116 = .ok (.iaload, 1) := by decide +kernel
theorem dX8_pass_117 : decode cX8_pass 117 = .ok (.ishl, 1) := by decide +kernel
theorem dX8_pass_118 : decode cX8_pass 118 = .ok (.ior, 1) := by decide +kernel
theorem dX8_pass_119 : decode cX8_pass 119 = .ok (.iastore, 1) := by decide +kernel
theorem dX8_pass_120 : decode cX8_pass 120 = .ok (.iinc 1 1, 3) := by decide +kernel
theorem dX8_pass_123 : decode cX8_pass 123 = .ok (.iinc 2 (-1), 3) := by decide +kernel
theorem dX8_pass_126 : decode cX8_pass 126 = .ok (.goto (-114), 3) := by decide +kernel
theorem dX8_pass_129 : decode cX8_pass 129 = .ok (.aload_n 0, 1) := by decide +kernel
theorem dX8_pass_130 : decode cX8_pass 130 = .ok (.dup, 1) := by decide +kernel
theorem dX8_pass_131 : decode cX8_pass 131 = .ok (.getfield 43, 3) := by decide +kernel
theorem dX8_pass_134 : decode cX8_pass 134 = .ok (.iconst 1, 1) := by decide +kernel
theorem dX8_pass_135 : decode cX8_pass 135 = .ok (.iadd, 1) := by decide +kernel
theorem dX8_pass_136 : decode cX8_pass 136 = .ok (.putfield 43, 3) := by decide +kernel
theorem dX8_pass_139 : decode cX8_pass 139 = .ok (.iconst 0, 1) := by decide +kernel
theorem dX8_pass_140 : decode cX8_pass 140 = .ok (.istore_n 2, 1) := by decide +kernel
theorem dX8_pass_141 : decode cX8_pass 141 = .ok (.iload_n 2, 1) := by decide +kernel
theorem dX8_pass_142 : decode cX8_pass 142 = .ok (.aload_n 0, 1) := by decide +kernel
theorem dX8_pass_143 : decode cX8_pass 143 = .ok (.getfield 3, 3) := by decide +kernel
theorem dX8_pass_146 : decode cX8_pass 146 = .ok (.getfield 95, 3) := by decide +kernel
theorem dX8_pass_149 : decode cX8_pass 149 = .ok (.if_icmp .ge 99, 3) := by decide +kernel
theorem dX8_pass_152 : decode cX8_pass 152 = .ok (.aload_n 0, 1) := by decide +kernel
theorem dX8_pass_153 : decode cX8_pass 153 = .ok (.getfield 22, 3) := by decide +kernel
theorem dX8_pass_156 : decode cX8_pass 156 = .ok (.iload_n 2, 1) := by decide +kernel
theorem dX8_pass_157 : decode cX8_pass 157 = .ok (.iaload, 1) := by decide +kernel
theorem dX8_pass_158 : decode cX8_pass 158 = .ok (.istore_n 3, 1) := by decide +kernel
theorem dX8_pass_159 : decode cX8_pass 159 = .ok (.iload_n 3, 1) := by decide +kernel
theorem dX8_pass_160 : decode cX8_pass 160 = .ok (.iconst (-1), 1) := by decide +kernel
theorem dX8_pass_161 : decode cX8_pass 161 = .ok (.if_icmp .eq 81, 3) := by decide +kernel
theorem dX8_pass_164 : decode cX8_pass 164 = .ok (.aload_n 0, 1) := by decide +kernel
theorem dX8_pass_165 : decode cX8_pass 165 = .ok (.getfield 25, 3) := by decide +kernel
theorem dX8_pass_168 : decode cX8_pass 168 = .ok (.iload_n 2, 1) := by decide +kernel
theorem dX8_pass_169 : decode cX8_pass 169 = .ok (.iaload, 1) := by decide +kernel
theorem dX8_pass_170 : decode cX8_pass 170 = .ok (.aload_n 0, 1) := by decide +kernel
theorem dX8_pass_171 : decode cX8_pass 171 = .ok (.getfield 43, 3) := by decide +kernel
theorem dX8_pass_174 : decode cX8_pass 174 = .ok (.if_icmp .lt 6, 3) := by decide +kernel
theorem dX8_pass_177 : decode cX8_pass 177 = .ok (.goto 65, 3) := by decide +kernel
theorem dX8_pass_180 : decode cX8_pass 180 = .ok (.aload_n 0, 1) := by decide +kernel
theorem dX8_pass_181 : decode cX8_pass 181 = .ok (.getfield 22, 3) := by decide +kernel
theorem dX8_pass_184 : decode cX8_pass 184 = .ok (.iload_n 2, 1) := by decide +kernel
theorem dX8_pass_185 : decode cX8_pass 185 = .ok (.iconst (-1), 1) := by decide +kernel
theorem dX8_pass_186 : decode cX8_pass 186 = .ok (.iastore, 1) := by decide +kernel
theorem dX8_pass_187 : decode cX8_pass 187 = .ok (.aload_n 0, 1) := by decide +kernel
theorem dX8_pass_188 : decode cX8_pass 188 = .ok (.getfield 25, 3) := by decide +kernel
theorem dX8_pass_191 : decode cX8_pass 191 = .ok (.iload_n 2, 1) := by decide +kernel
theorem dX8_pass_192 : decode cX8_pass 192 = .ok (.iconst (-1), 1) := by decide +kernel
theorem dX8_pass_193 : decode cX8_pass 193 = .ok (.iastore, 1) := by decide +kernel
theorem dX8_pass_194 : decode cX8_pass 194 = .ok (.aload_n 0, 1) := by decide +kernel
theorem dX8_pass_195 : decode cX8_pass 195 = .ok (.getfield 19, 3) := by decide +kernel
theorem dX8_pass_198 : decode cX8_pass 198 = .ok (.iload_n 3, 1) := by decide +kernel
theorem dX8_pass_199 : decode cX8_pass 199 = .ok (.dup2, 1) := by decide +kernel
theorem dX8_pass_200 : decode cX8_pass 200 = .ok (.iaload, 1) := by decide +kernel
theorem dX8_pass_201 : decode cX8_pass 201 = .ok (.iconst 1, 1) := by decide +kernel
theorem dX8_pass_202 : decode cX8_pass 202 = .ok (.iadd, 1) := by decide +kernel
theorem dX8_pass_203 : decode cX8_pass 203 = .ok (.iastore, 1) := by decide +kernel
theorem dX8_pass_204 : decode cX8_pass 204 = .ok (.aload_n 0, 1) := by decide +kernel
theorem dX8_pass_205 : decode cX8_pass 205 = .ok (.getfield 19, 3) := by decide +kernel
theorem dX8_pass_208 : decode cX8_pass 208 = .ok (.iload_n 3, 1) := by decide +kernel
theorem dX8_pass_209 : decode cX8_pass 209 = .ok (.iaload, 1) := by decide +kernel
theorem dX8_pass_210 : decode cX8_pass 210 = .ok (.iconst 3, 1) := by decide +kernel
theorem dX8_pass_211 : decode cX8_pass 211 = .ok (.if_icmp .ge 6, 3) := by decide +kernel
theorem dX8_pass_214 : decode cX8_pass 214 = .ok (.goto 28, 3) := by decide +kernel
theorem dX8_pass_217 : decode cX8_pass 217 = .ok (.aload_n 0, 1) := by decide +kernel
theorem dX8_pass_218 : decode cX8_pass 218 = .ok (.getfield 19, 3) := by decide +kernel
theorem dX8_pass_221 : decode cX8_pass 221 = .ok (.iload_n 3, 1) := by decide +kernel
theorem dX8_pass_222 : decode cX8_pass 222 = .ok (.iconst 0, 1) := by decide +kernel
theorem dX8_pass_223 : decode cX8_pass 223 = .ok (.iastore, 1) := by decide +kernel
theorem dX8_pass_224 : decode cX8_pass 224 = .ok (.aload_n 0, 1) := by decide +kernel
theorem dX8_pass_225 : decode cX8_pass 225 = .ok (.getfield 15, 3) := by decide +kernel
theorem dX8_pass_228 : decode cX8_pass 228 = .ok (.iload_n 3, 1) := by decide +kernel
theorem dX8_pass_229 : decode cX8_pass 229 = .ok (.iconst 0, 1) := by decide +kernel
theorem dX8_pass_230 : decode cX8_pass 230 = .ok (.aload_n 0, 1) := by decide +kernel
theorem dX8_pass_231 : decode cX8_pass 231 = .ok (.getfield 15, 3) := by decide +kernel
theorem dX8_pass_234 : decode cX8_pass 234 = .ok (.iload_n 3, 1) := by decide +kernel
theorem dX8_pass_235 : decode cX8_pass 235 = .ok (.iaload, 1) := by decide +kernel
theorem dX8_pass_236 : decode cX8_pass 236 = .ok (.iconst 1, 1) := by decide +kernel
theorem dX8_pass_237 : decode cX8_pass 237 = .ok (.isub, 1) := by decide +kernel
theorem dX8_pass_238 : decode cX8_pass 238 = .ok (.invokestatic 98, 3) := by decide +kernel
theorem dX8_pass_241 : decode cX8_pass 241 = .ok (.iastore, 1) := by decide +kernel
theorem dX8_pass_242 : decode cX8_pass 242 = .ok (.iinc 2 1, 3) := by decide +kernel
theorem dX8_pass_245 : decode cX8_pass 245 = .ok (.goto (-104), 3) := by decide +kernel
theorem dX8_pass_248 : decode cX8_pass 248 = .ok (.iload_n 1, 1) := by decide +kernel
theorem dX8_pass_249 : decode cX8_pass 249 = .ok (.ireturn, 1) := by decide +kernel
theorem dX9_init_0 : decode cX9_init 0 = .ok (.aload_n 0, 1) := by decide +kernel
theorem dX9_init_1 : decode cX9_init 1 = .ok (.invokespecial 1, 3) := by decide +kernel
theorem dX9_init_4 : decode cX9_init 4 = .ok (.aload_n 0, 1) := by decide +kernel
theorem dX9_init_5 : decode cX9_init 5 = .ok (.sipush 1000, 3) := by decide +kernel
theorem dX9_init_8 : decode cX9_init 8 = .ok (.newarray .int, 2) := by decide +kernel
theorem dX9_init_10 : decode cX9_init 10 = .ok (.putfield 9, 3) := by decide +kernel
theorem dX9_init_13 : decode cX9_init 13 = .ok (.aload_n 0, 1) := by decide +kernel
theorem dX9_init_14 : decode cX9_init 14 = .ok (.iconst (-1), 1) := by decide +kernel
theorem dX9_init_15 : decode cX9_init 15 = .ok (.putfield 13, 3) := by decide +kernel
theorem dX9_init_18 : decode cX9_init 18 = .ok (.aload_n 0, 1) := by decide +kernel
theorem dX9_init_19 : decode cX9_init 19 = .ok (.sipush 2500, 3) := by decide +kernel
theorem dX9_init_22 : decode cX9_init 22 = .ok (.newarray .int, 2) := by decide +kernel
theorem dX9_init_24 : decode cX9_init 24 = .ok (.putfield 17, 3) := by decide +kernel
theorem dX9_init_27 : decode cX9_init 27 = .ok (.aload_n 0, 1) := by decide +kernel
theorem dX9_init_28 : decode cX9_init 28 = .ok (.bipush 8, 2) := by decide +kernel
theorem dX9_init_30 : decode cX9_init 30 = .ok (.newarray .int, 2) := by decide +kernel
theorem dX9_init_32 : decode cX9_init 32 = .ok (.putfield 20, 3) := by decide +kernel
theorem dX9_init_35 : decode cX9_init 35 = .ok (.aload_n 0, 1) := by decide +kernel
theorem dX9_init_36 : decode cX9_init 36 = .ok (.bipush 12, 2) := by decide +kernel
theorem dX9_init_38 : decode cX9_init 38 = .ok (.newarray .int, 2) := by decide +kernel
theorem dX9_init_40 : decode cX9_init 40 = .ok (.putfield 23, 3) := by decide +kernel
theorem dX9_init_43 : decode cX9_init 43 = .ok (.aload_n 0, 1) := by decide +kernel
theorem dX9_init_44 : decode cX9_init 44 = .ok (.bipush 12, 2) := by decide +kernel
theorem dX9_init_46 : decode cX9_init 46 = .ok (.newarray .int, 2) := by decide +kernel
theorem dX9_init_48 : decode cX9_init 48 = .ok (.putfield 26, 3) := by decide +kernel
theorem dX9_init_51 : decode cX9_init 51 = .ok (.aload_n 0, 1) := by decide +kernel
theorem dX9_init_52 : decode cX9_init 52 = .ok (.bipush 24, 2) := by decide +kernel
theorem dX9_init_54 : decode cX9_init 54 = .ok (.newarray .int, 2) := by decide +kernel
theorem dX9_init_56 : decode cX9_init 56 = .ok (.putfield 29, 3) := by decide +kernel
theorem dX9_init_59 : decode cX9_init 59 = .ok (.aload_n 0, 1) := by decide +kernel
theorem dX9_init_60 : decode cX9_init 60 = .ok (.bipush 24, 2) := by decide +kernel
theorem dX9_init_62 : decode cX9_init 62 = .ok (.anewarray 32, 3) := by decide +kernel
theorem dX9_init_65 : decode cX9_init 65 = .ok (.putfield 33, 3) := by decide +kernel
theorem dX9_init_68 : decode cX9_init 68 = .ok (.aload_n 0, 1) := by decide +kernel
theorem dX9_init_69 : decode cX9_init 69 = .ok (.bipush 24, 2) := by decide +kernel
theorem dX9_init_71 : decode cX9_init 71 = .ok (.anewarray 32, 3) := by decide +kernel
theorem dX9_init_74 : decode cX9_init 74 = .ok (.putfield 37, 3) := by decide +kernel
theorem dX9_init_77 : decode cX9_init 77 = .ok (.aload_n 0, 1) := by decide +kernel
theorem dX9_init_78 : decode cX9_init 78 = .ok (.bipush 24, 2) := by decide +kernel
theorem dX9_init_80 : decode cX9_init 80 = .ok (.anewarray 32, 3) := by decide +kernel
theorem dX9_init_83 : decode cX9_init 83 = .ok (.putfield 40, 3) := by decide +kernel
theorem dX9_init_86 : decode cX9_init 86 = .ok (.aload_n 0, 1) := by decide +kernel
theorem dX9_init_87 : decode cX9_init 87 = .ok (.bipush 24, 2) := by decide +kernel
theorem dX9_init_89 : decode cX9_init 89 = .ok (.newarray .int, 2) := by decide +kernel
theorem dX9_init_91 : decode cX9_init 91 = .ok (.putfield 43, 3) := by decide +kernel
theorem dX9_init_94 : decode cX9_init 94 = .ok (.aload_n 0, 1) := by decide +kernel
theorem dX9_init_95 : decode cX9_init 95 = .ok (.bipush 20, 2) := by decide +kernel
theorem dX9_init_97 : decode cX9_init 97 = .ok (.newarray .int, 2) := by decide +kernel
theorem dX9_init_99 : decode cX9_init 99 = .ok (.putfield 46, 3) := by decide +kernel
theorem dX9_init_102 : decode cX9_init 102 = .ok (.aload_n 0, 1) := by decide +kernel
theorem dX9_init_103 : decode cX9_init 103 = .ok (.bipush 20, 2) := by decide +kernel
theorem dX9_init_105 : decode cX9_init 105 = .ok (.newarray .int, 2) := by decide +kernel
theorem dX9_init_107 : decode cX9_init 107 = .ok (.putfield 49, 3) := by decide +kernel
theorem dX9_init_110 : decode cX9_init 110 = .ok (.aload_n 0, 1) := by decide +kernel
theorem dX9_init_111 : decode cX9_init 111 = .ok (.bipush 20, 2) := by decide +kernel
theorem dX9_init_113 : decode cX9_init 113 = .ok (.newarray .int, 2) := by decide +kernel
theorem dX9_init_115 : decode cX9_init 115 = .ok (.putfield 52, 3) := by decide +kernel
theorem dX9_init_118 : decode cX9_init 118 = .ok (.aload_n 0, 1) := by decide +kernel
theorem dX9_init_119 : decode cX9_init 119 = .ok (.bipush 20, 2) := by decide +kernel
theorem dX9_init_121 : decode cX9_init 121 = .ok (.newarray .int, 2) := by decide +kernel
theorem dX9_init_123 : decode cX9_init 123 = .ok (.putfield 55, 3) := by decide +kernel
theorem dX9_init_126 : decode cX9_init 126 = .ok (.aload_n 0, 1) := by decide +kernel
theorem dX9_init_127 : decode cX9_init 127 = .ok (.sipush 960, 3) := by decide +kernel
theorem dX9_init_130 : decode cX9_init 130 = .ok (.newarray .int, 2) := by decide +kernel
theorem dX9_init_132 : decode cX9_init 132 = .ok (.putfield 58, 3) := by decide +kernel
theorem dX9_init_135 : decode cX9_init 135 = .ok (.aload_n 0, 1) := by decide +kernel
theorem dX9_init_136 : decode cX9_init 136 = .ok (.bipush 40, 2) := by decide +kernel
theorem dX9_init_138 : decode cX9_init 138 = .ok (.newarray .int, 2) := by decide +kernel
theorem dX9_init_140 : decode cX9_init 140 = .ok (.putfield 61, 3) := by decide +kernel
theorem dX9_init_143 : decode cX9_init 143 = .ok (.aload_n 0, 1) := by decide +kernel
theorem dX9_init_144 : decode cX9_init 144 = .ok (.bipush 40, 2) := by decide +kernel
theorem dX9_init_146 : decode cX9_init 146 = .ok (.newarray .int, 2) := by decide +kernel
theorem dX9_init_148 : decode cX9_init 148 = .ok (.putfield 64, 3) := by decide +kernel
theorem dX9_init_151 : decode cX9_init 151 = .ok (.aload_n 0, 1) := by decide +kernel
theorem dX9_init_152 : decode cX9_init 152 = .ok (.bipush 40, 2) := by decide +kernel
theorem dX9_init_154 : decode cX9_init 154 = .ok (.newarray .int, 2) := by decide +kernel
theorem dX9_init_156 : decode cX9_init 156 = .ok (.putfield 67, 3) := by decide +kernel
theorem dX9_init_159 : decode cX9_init 159 = .ok (.aload_n 0, 1) := by decide +kernel
theorem dX9_init_160 : decode cX9_init 160 = .ok (.new 70, 3) := by decide +kernel
theorem dX9_init_163 : decode cX9_init 163 = .ok (.dup, 1) := by decide +kernel
theorem dX9_init_164 : decode cX9_init 164 = .ok (.aload_n 0, 1) := by decide +kernel
theorem dX9_init_165 : decode cX9_init 165 = .ok (.invokespecial 72, 3) := by decide +kernel
theorem dX9_init_168 : decode cX9_init 168 = .ok (.putfield 75, 3) := by decide +kernel
theorem dX9_init_171 : decode cX9_init 171 = .ok (.aload_n 0, 1) := by decide +kernel
theorem dX9_init_172 : decode cX9_init 172 = .ok (.new 70, 3) := by decide +kernel
theorem dX9_init_175 : decode cX9_init 175 = .ok (.dup, 1) := by decide +kernel
theorem dX9_init_176 : decode cX9_init 176 = .ok (.aload_n 0, 1) := by decide +kernel
theorem dX9_init_177 : decode cX9_init 177 = .ok (.invokespecial 72, 3) := by decide +kernel
theorem dX9_init_180 : decode cX9_init 180 = .ok (.putfield 79, 3) := by decide +kernel
theorem dX9_init_183 : decode cX9_init 183 = .ok (.aload_n 0, 1) := by decide +kernel
theorem dX9_init_184 : decode cX9_init 184 = .ok (.sipush 2500, 3) := by decide +kernel
theorem dX9_init_187 : decode cX9_init 187 = .ok (.newarray .int, 2) := by decide +kernel
theorem dX9_init_189 : decode cX9_init 189 = .ok (.putfield 82, 3) := by decide +kernel
theorem dX9_init_192 : decode cX9_init 192 = .ok (.aload_n 0, 1) := by decide +kernel
theorem dX9_init_193 : decode cX9_init 193 = .ok (.sipush 2500, 3) := by decide +kernel
theorem dX9_init_196 : decode cX9_init 196 = .ok (.newarray .int, 2) := by decide +kernel
theorem dX9_init_198 : decode cX9_init 198 = .ok (.putfield 85, 3) := by decide +kernel
theorem dX9_init_201 : decode cX9_init 201 = .ok (.aload_n 0, 1) := by decide +kernel
theorem dX9_init_202 : decode cX9_init 202 = .ok (.sipush 2500, 3) := by decide +kernel
theorem dX9_init_205 : decode cX9_init 205 = .ok (.newarray .int, 2) := by decide +kernel
theorem dX9_init_207 : decode cX9_init 207 = .ok (.putfield 88, 3) := by decide +kernel
theorem dX9_init_210 : decode cX9_init 210 = .ok (.return_, 1) := by decide +kernel
theorem dX9_thrown_0 : decode cX9_thrown 0 = .ok (.aload_n 0, 1) := by decide +kernel
theorem dX9_thrown_1 : decode cX9_thrown 1 = .ok (.getfield 91, 3) := by decide +kernel
theorem dX9_thrown_4 : decode cX9_thrown 4 = .ok (.ireturn, 1) := by decide +kernel
theorem dX9_no_0 : decode cX9_no 0 = .ok (.aload_n 0, 1) := by decide +kernel
theorem dX9_no_1 : decode cX9_no 1 = .ok (.iload_n 1, 1) := by decide +kernel
theorem dX9_no_2 : decode cX9_no 2 = .ok (.putfield 91, 3) := by decide +kernel
theorem dX9_no_5 : decode cX9_no 5 = .ok (.iconst 0, 1) := by decide +kernel
theorem dX9_no_6 : decode cX9_no 6 = .ok (.ireturn, 1) := by decide +kernel
theorem dX9_isIn_0 : decode cX9_isIn 0 = .ok (.iload_n 0, 1) := by decide +kernel
theorem dX9_isIn_1 : decode cX9_isIn 1 = .ok (.iload_n 1, 1) := by decide +kernel
theorem dX9_isIn_2 : decode cX9_isIn 2 = .ok (.if_icmp .lt 12, 3) := by decide +kernel
theorem dX9_isIn_5 : decode cX9_isIn 5 = .ok (.iload_n 0, 1) := by decide +kernel
theorem dX9_isIn_6 : decode cX9_isIn 6 = .ok (.iload_n 2, 1) := by decide +kernel
theorem dX9_isIn_7 : decode cX9_isIn 7 = .ok (.if_icmp .gt 7, 3) := by decide +kernel
theorem dX9_isIn_10 : decode cX9_isIn 10 = .ok (.iconst 1, 1) := by decide +kernel
theorem dX9_isIn_11 : decode cX9_isIn 11 = .ok (.goto 4, 3) := by decide +kernel
theorem dX9_isIn_14 : decode cX9_isIn 14 = .ok (.iconst 0, 1) := by decide +kernel
theorem dX9_isIn_15 : decode cX9_isIn 15 = .ok (.ireturn, 1) := by decide +kernel
theorem dX9_isCase_0 : decode cX9_isCase 0 = .ok (.iload_n 1, 1) := by decide +kernel
theorem dX9_isCase_1 : decode cX9_isCase 1 = .ok (.iconst 0, 1) := by decide +kernel
theorem dX9_isCase_2 : decode cX9_isCase 2 = .ok (.aload_n 0, 1) := by decide +kernel
theorem dX9_isCase_3 : decode cX9_isCase 3 = .ok (.getfield 94, 3) := by decide +kernel
theorem dX9_isCase_6 : decode cX9_isCase 6 = .ok (.iconst 1, 1) := by decide +kernel
theorem dX9_isCase_7 : decode cX9_isCase 7 = .ok (.isub, 1) := by decide +kernel
theorem dX9_isCase_8 : decode cX9_isCase 8 = .ok (.invokestatic 97, 3) := by decide +kernel
theorem dX9_isCase_11 : decode cX9_isCase 11 = .ok (.ireturn, 1) := by decide +kernel
theorem dX9_isPerson_0 : decode cX9_isPerson 0 = .ok (.iload_n 1, 1) := by decide +kernel
theorem dX9_isPerson_1 : decode cX9_isPerson 1 = .ok (.iconst 0, 1) := by decide +kernel
theorem dX9_isPerson_2 : decode cX9_isPerson 2 = .ok (.aload_n 0, 1) := by decide +kernel
theorem dX9_isPerson_3 : decode cX9_isPerson 3 = .ok (.getfield 101, 3) := by decide +kernel
theorem dX9_isPerson_6 : decode cX9_isPerson 6 = .ok (.iconst 1, 1) := by decide +kernel
theorem dX9_isPerson_7 : decode cX9_isPerson 7 = .ok (.isub, 1) := by decide +kernel
theorem dX9_isPerson_8 : decode cX9_isPerson 8 = .ok (.invokestatic 97, 3) := by decide +kernel
theorem dX9_isPerson_11 : decode cX9_isPerson 11 = .ok (.ireturn, 1) := by decide +kernel
theorem dX9_isDocument_0 : decode cX9_isDocument 0 = .ok (.iload_n 1, 1) := by decide +kernel
theorem dX9_isDocument_1 : decode cX9_isDocument 1 = .ok (.iconst 0, 1) := by decide +kernel
theorem dX9_isDocument_2 : decode cX9_isDocument 2 = .ok (.aload_n 0, 1) := by decide +kernel
theorem dX9_isDocument_3 : decode cX9_isDocument 3 = .ok (.getfield 104, 3) := by decide +kernel
theorem dX9_isDocument_6 : decode cX9_isDocument 6 = .ok (.iconst 1, 1) := by decide +kernel
theorem dX9_isDocument_7 : decode cX9_isDocument 7 = .ok (.isub, 1) := by decide +kernel
theorem dX9_isDocument_8 : decode cX9_isDocument 8 = .ok (.invokestatic 97, 3) := by decide +kernel
theorem dX9_isDocument_11 : decode cX9_isDocument 11 = .ok (.ireturn, 1) := by decide +kernel
theorem dX9_isExhibit_0 : decode cX9_isExhibit 0 = .ok (.iload_n 1, 1) := by decide +kernel
theorem dX9_isExhibit_1 : decode cX9_isExhibit 1 = .ok (.iconst 0, 1) := by decide +kernel
theorem dX9_isExhibit_2 : decode cX9_isExhibit 2 = .ok (.aload_n 0, 1) := by decide +kernel
theorem dX9_isExhibit_3 : decode cX9_isExhibit 3 = .ok (.getfield 107, 3) := by decide +kernel
theorem dX9_isExhibit_6 : decode cX9_isExhibit 6 = .ok (.iconst 1, 1) := by decide +kernel
theorem dX9_isExhibit_7 : decode cX9_isExhibit 7 = .ok (.isub, 1) := by decide +kernel
theorem dX9_isExhibit_8 : decode cX9_isExhibit 8 = .ok (.invokestatic 97, 3) := by decide +kernel
theorem dX9_isExhibit_11 : decode cX9_isExhibit 11 = .ok (.ireturn, 1) := by decide +kernel
theorem dX9_clerks_0 : decode cX9_clerks 0 = .ok (.iconst 0, 1) := by decide +kernel
theorem dX9_clerks_1 : decode cX9_clerks 1 = .ok (.istore_n 1, 1) := by decide +kernel
theorem dX9_clerks_2 : decode cX9_clerks 2 = .ok (.iconst 0, 1) := by decide +kernel
theorem dX9_clerks_3 : decode cX9_clerks 3 = .ok (.istore_n 2, 1) := by decide +kernel
theorem dX9_clerks_4 : decode cX9_clerks 4 = .ok (.iload_n 2, 1) := by decide +kernel
theorem dX9_clerks_5 : decode cX9_clerks 5 = .ok (.aload_n 0, 1) := by decide +kernel
theorem dX9_clerks_6 : decode cX9_clerks 6 = .ok (.getfield 101, 3) := by decide +kernel
theorem dX9_clerks_9 : decode cX9_clerks 9 = .ok (.if_icmp .ge 26, 3) := by decide +kernel
theorem dX9_clerks_12 : decode cX9_clerks 12 = .ok (.iload_n 1, 1) := by decide +kernel
theorem dX9_clerks_13 : decode cX9_clerks 13 = .ok (.aload_n 0, 1) := by decide +kernel
theorem dX9_clerks_14 : decode cX9_clerks 14 = .ok (.getfield 23, 3) := by decide +kernel
theorem dX9_clerks_17 : decode cX9_clerks 17 = .ok (.iload_n 2, 1) := by decide +kernel
theorem dX9_clerks_18 : decode cX9_clerks 18 = .ok (.iaload, 1) := by decide +kernel
theorem dX9_clerks_19 : decode cX9_clerks 19 = .ok (.ifCond .ne 7, 3) := by decide +kernel
theorem dX9_clerks_22 : decode cX9_clerks 22 = .ok (.iconst 1, 1) := by decide +kernel
theorem dX9_clerks_23 : decode cX9_clerks 23 = .ok (.goto 4, 3) := by decide +kernel
theorem dX9_clerks_26 : decode cX9_clerks 26 = .ok (.iconst 0, 1) := by decide +kernel
theorem dX9_clerks_27 : decode cX9_clerks 27 = .ok (.iadd, 1) := by decide +kernel
theorem dX9_clerks_28 : decode cX9_clerks 28 = .ok (.istore_n 1, 1) := by decide +kernel
theorem dX9_clerks_29 : decode cX9_clerks 29 = .ok (.iinc 2 1, 3) := by decide +kernel
theorem dX9_clerks_32 : decode cX9_clerks 32 = .ok (.goto (-28), 3) := by decide +kernel
theorem dX9_clerks_35 : decode cX9_clerks 35 = .ok (.iload_n 1, 1) := by decide +kernel
theorem dX9_clerks_36 : decode cX9_clerks 36 = .ok (.ireturn, 1) := by decide +kernel
theorem dX9_feed_0 : decode cX9_feed 0 = .ok (.aload_n 0, 1) := by decide +kernel
theorem dX9_feed_1 : decode cX9_feed 1 = .ok (.iconst 0, 1) := by decide +kernel
theorem dX9_feed_2 : decode cX9_feed 2 = .ok (.putfield 91, 3) := by decide +kernel
theorem dX9_feed_5 : decode cX9_feed 5 = .ok (.aload_n 0, 1) := by decide +kernel
theorem dX9_feed_6 : decode cX9_feed 6 = .ok (.getfield 110, 3) := by decide +kernel
theorem dX9_feed_9 : decode cX9_feed 9 = .ok (.bipush 20, 2) := by decide +kernel
theorem dX9_feed_11 : decode cX9_feed 11 = .ok (.iadd, 1) := by decide +kernel
theorem dX9_feed_12 : decode cX9_feed 12 = .ok (.sipush 1000, 3) := by decide +kernel
theorem dX9_feed_15 : decode cX9_feed 15 = .ok (.if_icmp .le 9, 3) := by decide +kernel
theorem dX9_feed_18 : decode cX9_feed 18 = .ok (.aload_n 0, 1) := by decide +kernel
theorem dX9_feed_19 : decode cX9_feed 19 = .ok (.iconst 1, 1) := by decide +kernel
theorem dX9_feed_20 : decode cX9_feed 20 = .ok (.invokevirtual 113, 3) := by decide +kernel
theorem dX9_feed_23 : decode cX9_feed 23 = .ok (.ireturn, 1) := by decide +kernel
theorem dX9_feed_24 : decode cX9_feed 24 = .ok (.iconst 5, 1) := by decide +kernel
theorem dX9_feed_25 : decode cX9_feed 25 = .ok (.newarray .int, 2) := by decide +kernel
theorem dX9_feed_27 : decode cX9_feed 27 = .ok (.dup, 1) := by decide +kernel
theorem dX9_feed_28 : decode cX9_feed 28 = .ok (.iconst 0, 1) := by decide +kernel
theorem dX9_feed_29 : decode cX9_feed 29 = .ok (.iload_n 1, 1) := by decide +kernel
theorem dX9_feed_30 : decode cX9_feed 30 = .ok (.iastore, 1) := by decide +kernel
theorem dX9_feed_31 : decode cX9_feed 31 = .ok (.dup, 1) := by decide +kernel
theorem dX9_feed_32 : decode cX9_feed 32 = .ok (.iconst 1, 1) := by decide +kernel
theorem dX9_feed_33 : decode cX9_feed 33 = .ok (.iload_n 2, 1) := by decide +kernel
theorem dX9_feed_34 : decode cX9_feed 34 = .ok (.iastore, 1) := by decide +kernel
theorem dX9_feed_35 : decode cX9_feed 35 = .ok (.dup, 1) := by decide +kernel
theorem dX9_feed_36 : decode cX9_feed 36 = .ok (.iconst 2, 1) := by decide +kernel
theorem dX9_feed_37 : decode cX9_feed 37 = .ok (.iload_n 3, 1) := by decide +kernel
theorem dX9_feed_38 : decode cX9_feed 38 = .ok (.iastore, 1) := by decide +kernel
theorem dX9_feed_39 : decode cX9_feed 39 = .ok (.dup, 1) := by decide +kernel
theorem dX9_feed_40 : decode cX9_feed 40 = .ok (.iconst 3, 1) := by decide +kernel
theorem dX9_feed_41 : decode cX9_feed 41 = .ok (.iload 4, 2) := by decide +kernel
theorem dX9_feed_43 : decode cX9_feed 43 = .ok (.iastore, 1) := by decide +kernel
theorem dX9_feed_44 : decode cX9_feed 44 = .ok (.dup, 1) := by decide +kernel
theorem dX9_feed_45 : decode cX9_feed 45 = .ok (.iconst 4, 1) := by decide +kernel
theorem dX9_feed_46 : decode cX9_feed 46 = .ok (.iload 5, 2) := by decide +kernel
theorem dX9_feed_48 : decode cX9_feed 48 = .ok (.iastore, 1) := by decide +kernel
theorem dX9_feed_49 : decode cX9_feed 49 = .ok (.astore 6, 2) := by decide +kernel
theorem dX9_feed_51 : decode cX9_feed 51 = .ok (.iconst 0, 1) := by decide +kernel
theorem dX9_feed_52 : decode cX9_feed 52 = .ok (.istore 7, 2) := by decide +kernel
theorem dX9_feed_54 : decode cX9_feed 54 = .ok (.iload 7, 2) := by decide +kernel
theorem dX9_feed_56 : decode cX9_feed 56 = .ok (.bipush 20, 2) := by decide +kernel
theorem dX9_feed_58 : decode cX9_feed 58 = .ok (.if_icmp .ge 43, 3) := by decide +kernel
theorem dX9_feed_61 : decode cX9_feed 61 = .ok (.aload_n 0, 1) := by decide +kernel
theorem dX9_feed_62 : decode cX9_feed 62 = .ok (.getfield 9, 3) := by decide +kernel
theorem dX9_feed_65 : decode cX9_feed 65 = .ok (.aload_n 0, 1) := by decide +kernel
theorem dX9_feed_66 : decode cX9_feed 66 = .ok (.getfield 110, 3) := by decide +kernel
theorem dX9_feed_69 : decode cX9_feed 69 = .ok (.iload 7, 2) := by decide +kernel
theorem dX9_feed_71 : decode cX9_feed 71 = .ok (.iadd, 1) := by decide +kernel
theorem dX9_feed_72 : decode cX9_feed 72 = .ok (.aload 6, 2) := by decide +kernel
theorem dX9_feed_74 : decode cX9_feed 74 = .ok (.iload 7, 2) := by decide +kernel
theorem dX9_feed_76 : decode cX9_feed 76 = .ok (.iconst 4, 1) := by decide +kernel
theorem dX9_feed_77 : decode cX9_feed 77 = .ok (.idiv, 1) := by decide +kernel
theorem dX9_feed_78 : decode cX9_feed 78 = .ok (.iaload, 1) := by decide +kernel
theorem dX9_feed_79 : decode cX9_feed 79 = .ok (.bipush 24, 2) := by decide +kernel
theorem dX9_feed_81 : decode cX9_feed 81 = .ok (.bipush 8, 2) := by decide +kernel
theorem dX9_feed_83 : decode cX9_feed 83 = .ok (.iload 7, 2) := by decide +kernel
theorem dX9_feed_85 : decode cX9_feed 85 = .ok (.iconst 4, 1) := by decide +kernel
theorem dX9_feed_86 : decode cX9_feed 86 = .ok (.irem, 1) := by decide +kernel
theorem dX9_feed_87 : decode cX9_feed 87 = .ok (.imul, 1) := by decide +kernel
theorem dX9_feed_88 : decode cX9_feed 88 = .ok (.isub, 1) := by decide +kernel
theorem dX9_feed_89 : decode cX9_feed 89 = .ok (.iushr, 1) := by decide +kernel
theorem dX9_feed_90 : decode cX9_feed 90 = .ok (.sipush 255, 3) := by decide +kernel
theorem dX9_feed_93 : decode cX9_feed 93 = .ok (.iand, 1) := by decide +kernel
theorem dX9_feed_94 : decode cX9_feed 94 = .ok (.iastore, 1) := by decide +kernel
theorem dX9_feed_95 : decode cX9_feed 95 = .ok (.iinc 7 1, 3) := by decide +kernel
theorem dX9_feed_98 : decode cX9_feed 98 = .ok (.goto (-44), 3) := by decide +kernel
theorem dX9_feed_101 : decode cX9_feed 101 = .ok (.aload_n 0, 1) := by decide +kernel
theorem dX9_feed_102 : decode cX9_feed 102 = .ok (.dup, 1) := by decide +kernel
theorem dX9_feed_103 : decode cX9_feed 103 = .ok (.getfield 110, 3) := by decide +kernel
theorem dX9_feed_106 : decode cX9_feed 106 = .ok (.bipush 20, 2) := by decide +kernel
theorem dX9_feed_108 : decode cX9_feed 108 = .ok (.iadd, 1) := by decide +kernel
theorem dX9_feed_109 : decode cX9_feed 109 = .ok (.putfield 110, 3) := by decide +kernel
theorem dX9_feed_112 : decode cX9_feed 112 = .ok (.aload_n 0, 1) := by decide +kernel
theorem dX9_feed_113 : decode cX9_feed 113 = .ok (.getfield 110, 3) := by decide +kernel
theorem dX9_feed_116 : decode cX9_feed 116 = .ok (.ireturn, 1) := by decide +kernel
theorem dX9_trim_0 : decode cX9_trim 0 = .ok (.aload_n 0, 1) := by decide +kernel
theorem dX9_trim_1 : decode cX9_trim 1 = .ok (.iconst 0, 1) := by decide +kernel
theorem dX9_trim_2 : decode cX9_trim 2 = .ok (.putfield 91, 3) := by decide +kernel
theorem dX9_trim_5 : decode cX9_trim 5 = .ok (.iload_n 1, 1) := by decide +kernel
theorem dX9_trim_6 : decode cX9_trim 6 = .ok (.iconst 0, 1) := by decide +kernel
theorem dX9_trim_7 : decode cX9_trim 7 = .ok (.aload_n 0, 1) := by decide +kernel
theorem dX9_trim_8 : decode cX9_trim 8 = .ok (.getfield 110, 3) := by decide +kernel
theorem dX9_trim_11 : decode cX9_trim 11 = .ok (.invokestatic 97, 3) := by decide +kernel
theorem dX9_trim_14 : decode cX9_trim 14 = .ok (.ifCond .ne 9, 3) := by decide +kernel
theorem dX9_trim_17 : decode cX9_trim 17 = .ok (.aload_n 0, 1) := by decide +kernel
theorem dX9_trim_18 : decode cX9_trim 18 = .ok (.iconst 1, 1) := by decide +kernel
theorem dX9_trim_19 : decode cX9_trim 19 = .ok (.invokevirtual 113, 3) := by decide +kernel
theorem dX9_trim_22 : decode cX9_trim 22 = .ok (.ireturn, 1) := by decide +kernel
theorem dX9_trim_23 : decode cX9_trim 23 = .ok (.aload_n 0, 1) := by decide +kernel
theorem dX9_trim_24 : decode cX9_trim 24 = .ok (.iload_n 1, 1) := by decide +kernel
theorem dX9_trim_25 : decode cX9_trim 25 = .ok (.putfield 110, 3) := by decide +kernel
theorem dX9_trim_28 : decode cX9_trim 28 = .ok (.iload_n 1, 1) := by decide +kernel
theorem dX9_trim_29 : decode cX9_trim 29 = .ok (.ireturn, 1) := by decide +kernel
theorem dX9_write_0 : decode cX9_write 0 = .ok (.aload_n 0, 1) := by decide +kernel
theorem dX9_write_1 : decode cX9_write 1 = .ok (.getfield 82, 3) := by decide +kernel
theorem dX9_write_4 : decode cX9_write 4 = .ok (.aload_n 0, 1) := by decide +kernel
theorem dX9_write_5 : decode cX9_write 5 = .ok (.getfield 117, 3) := by decide +kernel
theorem dX9_write_8 : decode cX9_write 8 = .ok (.iload_n 1, 1) := by decide +kernel
theorem dX9_write_9 : decode cX9_write 9 = .ok (.iastore, 1) := by decide +kernel
theorem dX9_write_10 : decode cX9_write 10 = .ok (.aload_n 0, 1) := by decide +kernel
theorem dX9_write_11 : decode cX9_write 11 = .ok (.getfield 85, 3) := by decide +kernel
theorem dX9_write_14 : decode cX9_write 14 = .ok (.aload_n 0, 1) := by decide +kernel
theorem dX9_write_15 : decode cX9_write 15 = .ok (.getfield 117, 3) := by decide +kernel
theorem dX9_write_18 : decode cX9_write 18 = .ok (.iload_n 2, 1) := by decide +kernel
theorem dX9_write_19 : decode cX9_write 19 = .ok (.iastore, 1) := by decide +kernel
theorem dX9_write_20 : decode cX9_write 20 = .ok (.aload_n 0, 1) := by decide +kernel
theorem dX9_write_21 : decode cX9_write 21 = .ok (.getfield 88, 3) := by decide +kernel
theorem dX9_write_24 : decode cX9_write 24 = .ok (.aload_n 0, 1) := by decide +kernel
theorem dX9_write_25 : decode cX9_write 25 = .ok (.getfield 117, 3) := by decide +kernel
theorem dX9_write_28 : decode cX9_write 28 = .ok (.iload_n 3, 1) := by decide +kernel
theorem dX9_write_29 : decode cX9_write 29 = .ok (.iastore, 1) := by decide +kernel
theorem dX9_write_30 : decode cX9_write 30 = .ok (.aload_n 0, 1) := by decide +kernel
theorem dX9_write_31 : decode cX9_write 31 = .ok (.dup, 1) := by decide +kernel
theorem dX9_write_32 : decode cX9_write 32 = .ok (.getfield 117, 3) := by decide +kernel
theorem dX9_write_35 : decode cX9_write 35 = .ok (.iconst 1, 1) := by decide +kernel
theorem dX9_write_36 : decode cX9_write 36 = .ok (.iadd, 1) := by decide +kernel
theorem dX9_write_37 : decode cX9_write 37 = .ok (.putfield 117, 3) := by decide +kernel
theorem dX9_write_40 : decode cX9_write 40 = .ok (.return_, 1) := by decide +kernel
theorem dX9_at_0 : decode cX9_at 0 = .ok (.iload_n 1, 1) := by decide +kernel
theorem dX9_at_1 : decode cX9_at 1 = .ok (.aload_n 0, 1) := by decide +kernel
theorem dX9_at_2 : decode cX9_at 2 = .ok (.getfield 110, 3) := by decide +kernel
theorem dX9_at_5 : decode cX9_at 5 = .ok (.if_icmp .ge 12, 3) := by decide +kernel
theorem dX9_at_8 : decode cX9_at 8 = .ok (.aload_n 0, 1) := by decide +kernel
theorem dX9_at_9 : decode cX9_at 9 = .ok (.getfield 9, 3) := by decide +kernel
theorem dX9_at_12 : decode cX9_at 12 = .ok (.iload_n 1, 1) := by decide +kernel
theorem dX9_at_13 : decode cX9_at 13 = .ok (.iaload, 1) := by decide +kernel
theorem dX9_at_14 : decode cX9_at 14 = .ok (.goto 4, 3) := by decide +kernel
theorem dX9_at_17 : decode cX9_at 17 = .ok (.iconst (-1), 1) := by decide +kernel
theorem dX9_at_18 : decode cX9_at 18 = .ok (.ireturn, 1) := by decide +kernel
theorem dX9_isLetter_0 : decode cX9_isLetter 0 = .ok (.iload_n 0, 1) := by decide +kernel
theorem dX9_isLetter_1 : decode cX9_isLetter 1 = .ok (.bipush 65, 2) := by decide +kernel
theorem dX9_isLetter_3 : decode cX9_isLetter 3 = .ok (.bipush 90, 2) := by decide +kernel
theorem dX9_isLetter_5 : decode cX9_isLetter 5 = .ok (.invokestatic 97, 3) := by decide +kernel
theorem dX9_isLetter_8 : decode cX9_isLetter 8 = .ok (.ifCond .ne 14, 3) := by decide +kernel
theorem dX9_isLetter_11 : decode cX9_isLetter 11 = .ok (.iload_n 0, 1) := by decide +kernel
theorem dX9_isLetter_12 : decode cX9_isLetter 12 = .ok (.bipush 97, 2) := by decide +kernel
theorem dX9_isLetter_14 : decode cX9_isLetter 14 = .ok (.bipush 122, 2) := by decide +kernel
theorem dX9_isLetter_16 : decode cX9_isLetter 16 = .ok (.invokestatic 97, 3) := by decide +kernel
theorem dX9_isLetter_19 : decode cX9_isLetter 19 = .ok (.ifCond .eq 7, 3) := by decide +kernel
theorem dX9_isLetter_22 : decode cX9_isLetter 22 = .ok (.iconst 1, 1) := by decide +kernel
theorem dX9_isLetter_23 : decode cX9_isLetter 23 = .ok (.goto 4, 3) := by decide +kernel
theorem dX9_isLetter_26 : decode cX9_isLetter 26 = .ok (.iconst 0, 1) := by decide +kernel
theorem dX9_isLetter_27 : decode cX9_isLetter 27 = .ok (.ireturn, 1) := by decide +kernel
theorem dX9_parse_0 : decode cX9_parse 0 = .ok (.bipush 6, 2) := by decide +kernel
theorem dX9_parse_2 : decode cX9_parse 2 = .ok (.newarray .int, 2) := by decide +kernel
theorem dX9_parse_4 : decode cX9_parse 4 = .ok (.astore_n 2, 1) := by decide +kernel
theorem dX9_parse_5 : decode cX9_parse 5 = .ok (.iconst 0, 1) := by decide +kernel
theorem dX9_parse_6 : decode cX9_parse 6 = .ok (.istore_n 3, 1) := by decide +kernel
theorem dX9_parse_7 : decode cX9_parse 7 = .ok (.aload_n 0, 1) := by decide +kernel
theorem dX9_parse_8 : decode cX9_parse 8 = .ok (.iconst 0, 1) := by decide +kernel
theorem dX9_parse_9 : decode cX9_parse 9 = .ok (.putfield 117, 3) := by decide +kernel
theorem dX9_parse_12 : decode cX9_parse 12 = .ok (.aload_n 0, 1) := by decide +kernel
theorem dX9_parse_13 : decode cX9_parse 13 = .ok (.iconst (-1), 1) := by decide +kernel
theorem dX9_parse_14 : decode cX9_parse 14 = .ok (.putfield 120, 3) := by decide +kernel
theorem dX9_parse_17 : decode cX9_parse 17 = .ok (.aload_n 0, 1) := by decide +kernel
theorem dX9_parse_18 : decode cX9_parse 18 = .ok (.iconst 0, 1) := by decide +kernel
theorem dX9_parse_19 : decode cX9_parse 19 = .ok (.putfield 123, 3) := by decide +kernel
theorem dX9_parse_22 : decode cX9_parse 22 = .ok (.iconst 0, 1) := by decide +kernel
theorem dX9_parse_23 : decode cX9_parse 23 = .ok (.istore 4, 2) := by decide +kernel
theorem dX9_parse_25 : decode cX9_parse 25 = .ok (.iload 4, 2) := by decide +kernel
theorem dX9_parse_27 : decode cX9_parse 27 = .ok (.aload_n 0, 1) := by decide +kernel
theorem dX9_parse_28 : decode cX9_parse 28 = .ok (.getfield 110, 3) := by decide +kernel
theorem dX9_parse_31 : decode cX9_parse 31 = .ok (.if_icmp .ge 413, 3) := by decide +kernel
theorem dX9_parse_34 : decode cX9_parse 34 = .ok (.aload_n 0, 1) := by decide +kernel
theorem dX9_parse_35 : decode cX9_parse 35 = .ok (.getfield 9, 3) := by decide +kernel
theorem dX9_parse_38 : decode cX9_parse 38 = .ok (.iload 4, 2) := by decide +kernel
theorem dX9_parse_40 : decode cX9_parse 40 = .ok (.iaload, 1) := by decide +kernel
theorem dX9_parse_41 : decode cX9_parse 41 = .ok (.istore 5, 2) := by decide +kernel
theorem dX9_parse_43 : decode cX9_parse 43 = .ok (.iload 5, 2) := by decide +kernel
theorem dX9_parse_45 : decode cX9_parse 45 = .ok (.bipush 91, 2) := by decide +kernel
theorem dX9_parse_47 : decode cX9_parse 47 = .ok (.if_icmp .ne 84, 3) := by decide +kernel
theorem dX9_parse_50 : decode cX9_parse 50 = .ok (.iload_n 3, 1) := by decide +kernel
theorem dX9_parse_51 : decode cX9_parse 51 = .ok (.iconst 5, 1) := by decide +kernel
theorem dX9_parse_52 : decode cX9_parse 52 = .ok (.if_icmp .ne 6, 3) := by decide +kernel
theorem dX9_parse_55 : decode cX9_parse 55 = .ok (.iload 4, 2) := by decide +kernel
theorem dX9_parse_57 : decode cX9_parse 57 = .ok (.ireturn, 1) := by decide +kernel
theorem dX9_parse_58 : decode cX9_parse 58 = .ok (.aload_n 0, 1) := by decide +kernel
theorem dX9_parse_59 : decode cX9_parse 59 = .ok (.iload 4, 2) := by decide +kernel
theorem dX9_parse_61 : decode cX9_parse 61 = .ok (.iconst 1, 1) := by decide +kernel
theorem dX9_parse_62 : decode cX9_parse 62 = .ok (.iadd, 1) := by decide +kernel
theorem dX9_parse_63 : decode cX9_parse 63 = .ok (.invokevirtual 126, 3) := by decide +kernel
theorem dX9_parse_66 : decode cX9_parse 66 = .ok (.bipush 49, 2) := by decide +kernel
theorem dX9_parse_68 : decode cX9_parse 68 = .ok (.bipush 57, 2) := by decide +kernel
theorem dX9_parse_70 : decode cX9_parse 70 = .ok (.invokestatic 97, 3) := by decide +kernel
theorem dX9_parse_73 : decode cX9_parse 73 = .ok (.ifCond .ne 8, 3) := by decide +kernel
theorem dX9_parse_76 : decode cX9_parse 76 = .ok (.iload 4, 2) := by decide +kernel
theorem dX9_parse_78 : decode cX9_parse 78 = .ok (.iconst 1, 1) := by decide +kernel
theorem dX9_parse_79 : decode cX9_parse 79 = .ok (.iadd, 1) := by decide +kernel
theorem dX9_parse_80 : decode cX9_parse 80 = .ok (.ireturn, 1) := by decide +kernel
theorem dX9_parse_81 : decode cX9_parse 81 = .ok (.aload_n 0, 1) := by decide +kernel
theorem dX9_parse_82 : decode cX9_parse 82 = .ok (.iload 4, 2) := by decide +kernel
theorem dX9_parse_84 : decode cX9_parse 84 = .ok (.iconst 2, 1) := by decide +kernel
theorem dX9_parse_85 : decode cX9_parse 85 = .ok (.iadd, 1) := by decide +kernel
theorem dX9_parse_86 : decode cX9_parse 86 = .ok (.invokevirtual 126, 3) := by decide +kernel
theorem dX9_parse_89 : decode cX9_parse 89 = .ok (.bipush 58, 2) := by decide +kernel
theorem dX9_parse_91 : decode cX9_parse 91 = .ok (.if_icmp .eq 8, 3) := by decide +kernel
theorem dX9_parse_94 : decode cX9_parse 94 = .ok (.iload 4, 2) := by decide +kernel
theorem dX9_parse_96 : decode cX9_parse 96 = .ok (.iconst 2, 1) := by decide +kernel
theorem dX9_parse_97 : decode cX9_parse 97 = .ok (.iadd, 1) := by decide +kernel
theorem dX9_parse_98 : decode cX9_parse 98 = .ok (.ireturn, 1) := by decide +kernel
theorem dX9_parse_99 : decode cX9_parse 99 = .ok (.iinc 3 1, 3) := by decide +kernel
theorem dX9_parse_102 : decode cX9_parse 102 = .ok (.aload_n 2, 1) := by decide +kernel
theorem dX9_parse_103 : decode cX9_parse 103 = .ok (.iload_n 3, 1) := by decide +kernel
theorem dX9_parse_104 : decode cX9_parse 104 = .ok (.aload_n 2, 1) := by decide +kernel
theorem dX9_parse_105 : decode cX9_parse 105 = .ok (.iload_n 3, 1) := by decide +kernel
theorem dX9_parse_106 : decode cX9_parse 106 = .ok (.iconst 1, 1) := by decide +kernel
theorem dX9_parse_107 : decode cX9_parse 107 = .ok (.isub, 1) := by decide +kernel
theorem dX9_parse_108 : decode cX9_parse 108 = .ok (.iaload, 1) := by decide +kernel
theorem dX9_parse_109 : decode cX9_parse 109 = .ok (.aload_n 0, 1) := by decide +kernel
theorem dX9_parse_110 : decode cX9_parse 110 = .ok (.getfield 9, 3) := by decide +kernel
theorem dX9_parse_113 : decode cX9_parse 113 = .ok (.iload 4, 2) := by decide +kernel
theorem dX9_parse_115 : decode cX9_parse 115 = .ok (.iconst 1, 1) := by decide +kernel
theorem dX9_parse_116 : decode cX9_parse 116 = .ok (.iadd, 1) := by decide +kernel
theorem dX9_parse_117 : decode cX9_parse 117 = .ok (.iaload, 1) := by decide +kernel
theorem dX9_parse_118 : decode cX9_parse 118 = .ok (.bipush 48, 2) := by decide +kernel
theorem dX9_parse_120 : decode cX9_parse 120 = .ok (.isub, 1) := by decide +kernel
theorem dX9_parse_121 : decode cX9_parse 121 = .ok (.invokestatic 129, 3) := by decide +kernel
theorem dX9_parse_124 : decode cX9_parse 124 = .ok (.iastore, 1) := by decide +kernel
theorem dX9_parse_125 : decode cX9_parse 125 = .ok (.iinc 4 3, 3) := by decide +kernel
theorem dX9_parse_128 : decode cX9_parse 128 = .ok (.goto 313, 3) := by decide +kernel
theorem dX9_parse_131 : decode cX9_parse 131 = .ok (.iload 5, 2) := by decide +kernel
theorem dX9_parse_133 : decode cX9_parse 133 = .ok (.bipush 93, 2) := by decide +kernel
theorem dX9_parse_135 : decode cX9_parse 135 = .ok (.if_icmp .ne 19, 3) := by decide +kernel
theorem dX9_parse_138 : decode cX9_parse 138 = .ok (.iload_n 3, 1) := by decide +kernel
theorem dX9_parse_139 : decode cX9_parse 139 = .ok (.ifCond .ne 6, 3) := by decide +kernel
theorem dX9_parse_142 : decode cX9_parse 142 = .ok (.iload 4, 2) := by decide +kernel
theorem dX9_parse_144 : decode cX9_parse 144 = .ok (.ireturn, 1) := by decide +kernel
theorem dX9_parse_145 : decode cX9_parse 145 = .ok (.iinc 3 (-1), 3) := by decide +kernel
theorem dX9_parse_148 : decode cX9_parse 148 = .ok (.iinc 4 1, 3) := by decide +kernel
theorem dX9_parse_151 : decode cX9_parse 151 = .ok (.goto 290, 3) := by decide +kernel
theorem dX9_parse_154 : decode cX9_parse 154 = .ok (.iload 5, 2) := by decide +kernel
theorem dX9_parse_156 : decode cX9_parse 156 = .ok (.bipush 123, 2) := by decide +kernel
theorem dX9_parse_158 : decode cX9_parse 158 = .ok (.if_icmp .ne 94, 3) := by decide +kernel
theorem dX9_parse_161 : decode cX9_parse 161 = .ok (.iload 4, 2) := by decide +kernel
theorem dX9_parse_163 : decode cX9_parse 163 = .ok (.iconst 1, 1) := by decide +kernel
theorem dX9_parse_164 : decode cX9_parse 164 = .ok (.iadd, 1) := by decide +kernel
theorem dX9_parse_165 : decode cX9_parse 165 = .ok (.istore 6, 2) := by decide +kernel
theorem dX9_parse_167 : decode cX9_parse 167 = .ok (.iload 6, 2) := by decide +kernel
theorem dX9_parse_169 : decode cX9_parse 169 = .ok (.istore 4, 2) := by decide +kernel
theorem dX9_parse_171 : decode cX9_parse 171 = .ok (.iload 4, 2) := by decide +kernel
theorem dX9_parse_173 : decode cX9_parse 173 = .ok (.iload 6, 2) := by decide +kernel
theorem dX9_parse_175 : decode cX9_parse 175 = .ok (.bipush 12, 2) := by decide +kernel
theorem dX9_parse_177 : decode cX9_parse 177 = .ok (.iadd, 1) := by decide +kernel
theorem dX9_parse_178 : decode cX9_parse 178 = .ok (.if_icmp .ge 47, 3) := by decide +kernel
theorem dX9_parse_181 : decode cX9_parse 181 = .ok (.aload_n 0, 1) := by decide +kernel
theorem dX9_parse_182 : decode cX9_parse 182 = .ok (.iload 4, 2) := by decide +kernel
theorem dX9_parse_184 : decode cX9_parse 184 = .ok (.invokevirtual 126, 3) := by decide +kernel
theorem dX9_parse_187 : decode cX9_parse 187 = .ok (.invokestatic 135, 3) := by decide +kernel
theorem dX9_parse_190 : decode cX9_parse 190 = .ok (.ifCond .eq 35, 3) := by decide +kernel
theorem dX9_parse_193 : decode cX9_parse 193 = .ok (.aload_n 0, 1) := by decide +kernel
theorem dX9_parse_194 : decode cX9_parse 194 = .ok (.aload_n 0, 1) := by decide +kernel
theorem dX9_parse_195 : decode cX9_parse 195 = .ok (.getfield 9, 3) := by decide +kernel
theorem dX9_parse_198 : decode cX9_parse 198 = .ok (.iload 4, 2) := by decide +kernel
theorem dX9_parse_200 : decode cX9_parse 200 = .ok (.iaload, 1) := by decide +kernel
theorem dX9_parse_201 : decode cX9_parse 201 = .ok (.aload_n 2, 1) := by decide +kernel
theorem dX9_parse_202 : decode cX9_parse 202 = .ok (.iload_n 3, 1) := by decide +kernel
theorem dX9_parse_203 : decode cX9_parse 203 = .ok (.iaload, 1) := by decide +kernel
theorem dX9_parse_204 : decode cX9_parse 204 = .ok (.iload 4, 2) := by decide +kernel
theorem dX9_parse_206 : decode cX9_parse 206 = .ok (.iload 6, 2) := by decide +kernel
theorem dX9_parse_208 : decode cX9_parse 208 = .ok (.if_icmp .ne 7, 3) := by decide +kernel
theorem dX9_parse_211 : decode cX9_parse 211 = .ok (.iconst 0, 1) := by decide +kernel
theorem dX9_parse_212 : decode cX9_parse 212 = .ok (.goto 4, 3) := by decide +kernel
theorem dX9_parse_215 : decode cX9_parse 215 = .ok (.iconst 1, 1) := by decide +kernel
theorem dX9_parse_216 : decode cX9_parse 216 = .ok (.invokevirtual 139, 3) := by decide +kernel
theorem dX9_parse_219 : decode cX9_parse 219 = .ok (.iinc 4 1, 3) := by decide +kernel
theorem dX9_parse_222 : decode cX9_parse 222 = .ok (.goto (-51), 3) := by decide +kernel
theorem dX9_parse_225 : decode cX9_parse 225 = .ok (.iload 4, 2) := by decide +kernel
theorem dX9_parse_227 : decode cX9_parse 227 = .ok (.iload 6, 2) := by decide +kernel
theorem dX9_parse_229 : decode cX9_parse 229 = .ok (.if_icmp .eq 14, 3) := by decide +kernel
theorem dX9_parse_232 : decode cX9_parse 232 = .ok (.aload_n 0, 1) := by decide +kernel
theorem dX9_parse_233 : decode cX9_parse 233 = .ok (.iload 4, 2) := by decide +kernel
theorem dX9_parse_235 : decode cX9_parse 235 = .ok (.invokevirtual 126, 3) := by decide +kernel
theorem dX9_parse_238 : decode cX9_parse 238 = .ok (.bipush 125, 2) := by decide +kernel
theorem dX9_parse_240 : decode cX9_parse 240 = .ok (.if_icmp .eq 6, 3) := by decide +kernel
theorem dX9_parse_243 : decode cX9_parse 243 = .ok (.iload 4, 2) := by decide +kernel
theorem dX9_parse_245 : decode cX9_parse 245 = .ok (.ireturn, 1) := by decide +kernel
theorem dX9_parse_246 : decode cX9_parse 246 = .ok (.iinc 4 1, 3) := by decide +kernel
theorem dX9_parse_249 : decode cX9_parse 249 = .ok (.goto 192, 3) := by decide +kernel
theorem dX9_parse_252 : decode cX9_parse 252 = .ok (.iload 5, 2) := by decide +kernel
theorem dX9_parse_254 : decode cX9_parse 254 = .ok (.bipush 64, 2) := by decide +kernel
theorem dX9_parse_256 : decode cX9_parse 256 = .ok (.if_icmp .ne 143, 3) := by decide +kernel
theorem dX9_parse_259 : decode cX9_parse 259 = .ok (.iload 4, 2) := by decide +kernel
theorem dX9_parse_261 : decode cX9_parse 261 = .ok (.istore 6, 2) := by decide +kernel
theorem dX9_parse_263 : decode cX9_parse 263 = .ok (.iconst 0, 1) := by decide +kernel
theorem dX9_parse_264 : decode cX9_parse 264 = .ok (.istore 7, 2) := by decide +kernel
theorem dX9_parse_266 : decode cX9_parse 266 = .ok (.iinc 4 1, 3) := by decide +kernel
theorem dX9_parse_269 : decode cX9_parse 269 = .ok (.iload 4, 2) := by decide +kernel
theorem dX9_parse_271 : decode cX9_parse 271 = .ok (.iload 6, 2) := by decide +kernel
theorem dX9_parse_273 : decode cX9_parse 273 = .ok (.iconst 4, 1) := by decide +kernel
theorem dX9_parse_274 : decode cX9_parse 274 = .ok (.iadd, 1) := by decide +kernel
theorem dX9_parse_275 : decode cX9_parse 275 = .ok (.if_icmp .ge 43, 3) := by decide +kernel
theorem dX9_parse_278 : decode cX9_parse 278 = .ok (.aload_n 0, 1) := by decide +kernel
theorem dX9_parse_279 : decode cX9_parse 279 = .ok (.iload 4, 2) := by decide +kernel
theorem dX9_parse_281 : decode cX9_parse 281 = .ok (.invokevirtual 126, 3) := by decide +kernel
theorem dX9_parse_284 : decode cX9_parse 284 = .ok (.bipush 48, 2) := by decide +kernel
theorem dX9_parse_286 : decode cX9_parse 286 = .ok (.bipush 57, 2) := by decide +kernel
theorem dX9_parse_288 : decode cX9_parse 288 = .ok (.invokestatic 97, 3) := by decide +kernel
theorem dX9_parse_291 : decode cX9_parse 291 = .ok (.ifCond .eq 27, 3) := by decide +kernel
theorem dX9_parse_294 : decode cX9_parse 294 = .ok (.bipush 10, 2) := by decide +kernel
theorem dX9_parse_296 : decode cX9_parse 296 = .ok (.iload 7, 2) := by decide +kernel
theorem dX9_parse_298 : decode cX9_parse 298 = .ok (.imul, 1) := by decide +kernel
theorem dX9_parse_299 : decode cX9_parse 299 = .ok (.aload_n 0, 1) := by decide +kernel
theorem dX9_parse_300 : decode cX9_parse 300 = .ok (.getfield 9, 3) := by decide +kernel
theorem dX9_parse_303 : decode cX9_parse 303 = .ok (.iload 4, 2) := by decide +kernel
theorem dX9_parse_305 : decode cX9_parse 305 = .ok (.iaload, 1) := by decide +kernel
theorem dX9_parse_306 : decode cX9_parse 306 = .ok (.iadd, 1) := by decide +kernel
theorem dX9_parse_307 : decode cX9_parse 307 = .ok (.bipush 48, 2) := by decide +kernel
theorem dX9_parse_309 : decode cX9_parse 309 = .ok (.isub, 1) := by decide +kernel
theorem dX9_parse_310 : decode cX9_parse 310 = .ok (.istore 7, 2) := by decide +kernel
theorem dX9_parse_312 : decode cX9_parse 312 = .ok (.iinc 4 1, 3) := by decide +kernel
theorem dX9_parse_315 : decode cX9_parse 315 = .ok (.goto (-46), 3) := by decide +kernel
theorem dX9_parse_318 : decode cX9_parse 318 = .ok (.iload 4, 2) := by decide +kernel
theorem dX9_parse_320 : decode cX9_parse 320 = .ok (.iload 6, 2) := by decide +kernel
theorem dX9_parse_322 : decode cX9_parse 322 = .ok (.iconst 1, 1) := by decide +kernel
theorem dX9_parse_323 : decode cX9_parse 323 = .ok (.iadd, 1) := by decide +kernel
theorem dX9_parse_324 : decode cX9_parse 324 = .ok (.if_icmp .ne 6, 3) := by decide +kernel
theorem dX9_parse_327 : decode cX9_parse 327 = .ok (.iload 4, 2) := by decide +kernel
theorem dX9_parse_329 : decode cX9_parse 329 = .ok (.ireturn, 1) := by decide +kernel
theorem dX9_parse_330 : decode cX9_parse 330 = .ok (.aload_n 0, 1) := by decide +kernel
theorem dX9_parse_331 : decode cX9_parse 331 = .ok (.iload 7, 2) := by decide +kernel
theorem dX9_parse_333 : decode cX9_parse 333 = .ok (.aload_n 2, 1) := by decide +kernel
theorem dX9_parse_334 : decode cX9_parse 334 = .ok (.iload_n 3, 1) := by decide +kernel
theorem dX9_parse_335 : decode cX9_parse 335 = .ok (.iaload, 1) := by decide +kernel
theorem dX9_parse_336 : decode cX9_parse 336 = .ok (.invokevirtual 143, 3) := by decide +kernel
theorem dX9_parse_339 : decode cX9_parse 339 = .ok (.iload 7, 2) := by decide +kernel
theorem dX9_parse_341 : decode cX9_parse 341 = .ok (.aload_n 0, 1) := by decide +kernel
theorem dX9_parse_342 : decode cX9_parse 342 = .ok (.getfield 107, 3) := by decide +kernel
theorem dX9_parse_345 : decode cX9_parse 345 = .ok (.if_icmp .ge 14, 3) := by decide +kernel
theorem dX9_parse_348 : decode cX9_parse 348 = .ok (.aload_n 0, 1) := by decide +kernel
theorem dX9_parse_349 : decode cX9_parse 349 = .ok (.getfield 46, 3) := by decide +kernel
theorem dX9_parse_352 : decode cX9_parse 352 = .ok (.iload 7, 2) := by decide +kernel
theorem dX9_parse_354 : decode cX9_parse 354 = .ok (.iaload, 1) := by decide +kernel
theorem dX9_parse_355 : decode cX9_parse 355 = .ok (.iload_n 1, 1) := by decide +kernel
theorem dX9_parse_356 : decode cX9_parse 356 = .ok (.if_icmp .eq 27, 3) := by decide +kernel
theorem dX9_parse_359 : decode cX9_parse 359 = .ok (.aload_n 0, 1) := by decide +kernel
theorem dX9_parse_360 : decode cX9_parse 360 = .ok (.aload_n 0, 1) := by decide +kernel
theorem dX9_parse_361 : decode cX9_parse 361 = .ok (.getfield 120, 3) := by decide +kernel
theorem dX9_parse_364 : decode cX9_parse 364 = .ok (.iconst (-1), 1) := by decide +kernel
theorem dX9_parse_365 : decode cX9_parse 365 = .ok (.if_icmp .ne 8, 3) := by decide +kernel
theorem dX9_parse_368 : decode cX9_parse 368 = .ok (.iload 6, 2) := by decide +kernel
theorem dX9_parse_370 : decode cX9_parse 370 = .ok (.goto 7, 3) := by decide +kernel
theorem dX9_parse_373 : decode cX9_parse 373 = .ok (.aload_n 0, 1) := by decide +kernel
theorem dX9_parse_374 : decode cX9_parse 374 = .ok (.getfield 120, 3) := by decide +kernel
theorem dX9_parse_377 : decode cX9_parse 377 = .ok (.putfield 120, 3) := by decide +kernel
theorem dX9_parse_380 : decode cX9_parse 380 = .ok (.goto 16, 3) := by decide +kernel
theorem dX9_parse_383 : decode cX9_parse 383 = .ok (.aload_n 0, 1) := by decide +kernel
theorem dX9_parse_384 : decode cX9_parse 384 = .ok (.dup, 1) := by decide +kernel
theorem dX9_parse_385 : decode cX9_parse 385 = .ok (.getfield 123, 3) := by decide +kernel
theorem dX9_parse_388 : decode cX9_parse 388 = .ok (.iconst 1, 1) := by decide +kernel
theorem dX9_parse_389 : decode cX9_parse 389 = .ok (.iload 7, 2) := by decide +kernel
theorem dX9_parse_391 : decode cX9_parse 391 = .ok (.ishl, 1) := by decide +kernel
theorem dX9_parse_392 : decode cX9_parse 392 = .ok (.ior, 1) := by decide +kernel
theorem dX9_parse_393 : decode cX9_parse 393 = .ok (.putfield 123, 3) := by decide +kernel
theorem dX9_parse_396 : decode cX9_parse 396 = .ok (.goto 45, 3) := by decide +kernel
theorem dX9_parse_399 : decode cX9_parse 399 = .ok (.iload 5, 2) := by decide +kernel
theorem dX9_parse_401 : decode cX9_parse 401 = .ok (.bipush 10, 2) := by decide +kernel
theorem dX9_parse_403 : decode cX9_parse 403 = .ok (.if_icmp .eq 15, 3) := by decide +kernel
theorem dX9_parse_406 : decode cX9_parse 406 = .ok (.iload 5, 2) := by decide +kernel
theorem dX9_parse_408 : decode cX9_parse 408 = .ok (.bipush 32, 2) := by decide +kernel
theorem dX9_parse_410 : decode cX9_parse 410 = .ok (.bipush 126, 2) := by decide +kernel
theorem dX9_parse_412 : decode cX9_parse 412 = .ok (.invokestatic 97, 3) := by decide +kernel
theorem dX9_parse_415 : decode cX9_parse 415 = .ok (.ifCond .eq 10, 3) := by decide +kernel
theorem dX9_parse_418 : decode cX9_parse 418 = .ok (.iload 5, 2) := by decide +kernel
theorem dX9_parse_420 : decode cX9_parse 420 = .ok (.bipush 125, 2) := by decide +kernel
theorem dX9_parse_422 : decode cX9_parse 422 = .ok (.if_icmp .ne 6, 3) := by decide +kernel
theorem dX9_parse_425 : decode cX9_parse 425 = .ok (.iload 4, 2) := by decide +kernel
theorem dX9_parse_427 : decode cX9_parse 427 = .ok (.ireturn, 1) := by decide +kernel
theorem dX9_parse_428 : decode cX9_parse 428 = .ok (.aload_n 0, 1) := by decide +kernel
theorem dX9_parse_429 : decode cX9_parse 429 = .ok (.iload 5, 2) := by decide +kernel
theorem dX9_parse_431 : decode cX9_parse 431 = .ok (.aload_n 2, 1) := by decide +kernel
theorem dX9_parse_432 : decode cX9_parse 432 = .ok (.iload_n 3, 1) := by decide +kernel
theorem dX9_parse_433 : decode cX9_parse 433 = .ok (.iaload, 1) := by decide +kernel
theorem dX9_parse_434 : decode cX9_parse 434 = .ok (.iconst 0, 1) := by decide +kernel
theorem dX9_parse_435 : decode cX9_parse 435 = .ok (.invokevirtual 139, 3) := by decide +kernel
theorem dX9_parse_438 : decode cX9_parse 438 = .ok (.iinc 4 1, 3) := by decide +kernel
theorem dX9_parse_441 : decode cX9_parse 441 = .ok (.goto (-416), 3) := by decide +kernel
theorem dX9_parse_444 : decode cX9_parse 444 = .ok (.iload_n 3, 1) := by decide +kernel
theorem dX9_parse_445 : decode cX9_parse 445 = .ok (.ifCond .ne 7, 3) := by decide +kernel
theorem dX9_parse_448 : decode cX9_parse 448 = .ok (.iconst (-1), 1) := by decide +kernel
theorem dX9_parse_449 : decode cX9_parse 449 = .ok (.goto 7, 3) := by decide +kernel
theorem dX9_parse_452 : decode cX9_parse 452 = .ok (.aload_n 0, 1) := by decide +kernel
theorem dX9_parse_453 : decode cX9_parse 453 = .ok (.getfield 110, 3) := by decide +kernel
theorem dX9_parse_456 : decode cX9_parse 456 = .ok (.ireturn, 1) := by decide +kernel
theorem dX9_writeExhibit_0 : decode cX9_writeExhibit 0 = .ok (.aload_n 0, 1) := by decide +kernel
theorem dX9_writeExhibit_1 : decode cX9_writeExhibit 1 = .ok (.bipush 69, 2) := by decide +kernel
theorem dX9_writeExhibit_3 : decode cX9_writeExhibit 3 = .ok (.iload_n 2, 1) := by decide +kernel
theorem dX9_writeExhibit_4 : decode cX9_writeExhibit 4 = .ok (.iconst 0, 1) := by decide +kernel
theorem dX9_writeExhibit_5 : decode cX9_writeExhibit 5 = .ok (.invokevirtual 139, 3) := by decide +kernel
theorem dX9_writeExhibit_8 : decode cX9_writeExhibit 8 = .ok (.aload_n 0, 1) := by decide +kernel
theorem dX9_writeExhibit_9 : decode cX9_writeExhibit 9 = .ok (.bipush 120, 2) := by decide +kernel
theorem dX9_writeExhibit_11 : decode cX9_writeExhibit 11 = .ok (.iload_n 2, 1) := by decide +kernel
theorem dX9_writeExhibit_12 : decode cX9_writeExhibit 12 = .ok (.iconst 0, 1) := by decide +kernel
theorem dX9_writeExhibit_13 : decode cX9_writeExhibit 13 = .ok (.invokevirtual 139, 3) := by decide +kernel
theorem dX9_writeExhibit_16 : decode cX9_writeExhibit 16 = .ok (.aload_n 0, 1) := by decide +kernel
theorem dX9_writeExhibit_17 : decode cX9_writeExhibit 17 = .ok (.bipush 46, 2) := by decide +kernel
theorem dX9_writeExhibit_19 : decode cX9_writeExhibit 19 = .ok (.iload_n 2, 1) := by decide +kernel
theorem dX9_writeExhibit_20 : decode cX9_writeExhibit 20 = .ok (.iconst 0, 1) := by decide +kernel
theorem dX9_writeExhibit_21 : decode cX9_writeExhibit 21 = .ok (.invokevirtual 139, 3) := by decide +kernel
theorem dX9_writeExhibit_24 : decode cX9_writeExhibit 24 = .ok (.aload_n 0, 1) := by decide +kernel
theorem dX9_writeExhibit_25 : decode cX9_writeExhibit 25 = .ok (.bipush 32, 2) := by decide +kernel
theorem dX9_writeExhibit_27 : decode cX9_writeExhibit 27 = .ok (.iload_n 2, 1) := by decide +kernel
theorem dX9_writeExhibit_28 : decode cX9_writeExhibit 28 = .ok (.iconst 0, 1) := by decide +kernel
theorem dX9_writeExhibit_29 : decode cX9_writeExhibit 29 = .ok (.invokevirtual 139, 3) := by decide +kernel
theorem dX9_writeExhibit_32 : decode cX9_writeExhibit 32 = .ok (.iload_n 1, 1) := by decide +kernel
theorem dX9_writeExhibit_33 : decode cX9_writeExhibit 33 = .ok (.bipush 99, 2) := by decide +kernel
theorem dX9_writeExhibit_35 : decode cX9_writeExhibit 35 = .ok (.if_icmp .le 16, 3) := by decide +kernel
theorem dX9_writeExhibit_38 : decode cX9_writeExhibit 38 = .ok (.aload_n 0, 1) := by decide +kernel
theorem dX9_writeExhibit_39 : decode cX9_writeExhibit 39 = .ok (.bipush 48, 2) := by decide +kernel
theorem dX9_writeExhibit_41 : decode cX9_writeExhibit 41 = .ok (.iload_n 1, 1) := by decide +kernel
theorem dX9_writeExhibit_42 : decode cX9_writeExhibit 42 = .ok (.bipush 100, 2) := by decide +kernel
theorem dX9_writeExhibit_44 : decode cX9_writeExhibit 44 = .ok (.idiv, 1) := by decide +kernel
theorem dX9_writeExhibit_45 : decode cX9_writeExhibit 45 = .ok (.iadd, 1) := by decide +kernel
theorem dX9_writeExhibit_46 : decode cX9_writeExhibit 46 = .ok (.iload_n 2, 1) := by decide +kernel
theorem dX9_writeExhibit_47 : decode cX9_writeExhibit 47 = .ok (.iconst 0, 1) := by decide +kernel
theorem dX9_writeExhibit_48 : decode cX9_writeExhibit 48 = .ok (.invokevirtual 139, 3) := by decide +kernel
theorem dX9_writeExhibit_51 : decode cX9_writeExhibit 51 = .ok (.iload_n 1, 1) := by decide +kernel
theorem dX9_writeExhibit_52 : decode cX9_writeExhibit 52 = .ok (.bipush 9, 2) := by decide +kernel
theorem dX9_writeExhibit_54 : decode cX9_writeExhibit 54 = .ok (.if_icmp .le 19, 3) := by decide +kernel
theorem dX9_writeExhibit_57 : decode cX9_writeExhibit 57 = .ok (.aload_n 0, 1) := by decide +kernel
theorem dX9_writeExhibit_58 : decode cX9_writeExhibit 58 = .ok (.bipush 48, 2) := by decide +kernel
theorem dX9_writeExhibit_60 : decode cX9_writeExhibit 60 = .ok (.iload_n 1, 1) := by decide +kernel
theorem dX9_writeExhibit_61 : decode cX9_writeExhibit 61 = .ok (.bipush 10, 2) := by decide +kernel
theorem dX9_writeExhibit_63 : decode cX9_writeExhibit 63 = .ok (.idiv, 1) := by decide +kernel
theorem dX9_writeExhibit_64 : decode cX9_writeExhibit 64 = .ok (.bipush 10, 2) := by decide +kernel
theorem dX9_writeExhibit_66 : decode cX9_writeExhibit 66 = .ok (.irem, 1) := by decide +kernel
theorem dX9_writeExhibit_67 : decode cX9_writeExhibit 67 = .ok (.iadd, 1) := by decide +kernel
theorem dX9_writeExhibit_68 : decode cX9_writeExhibit 68 = .ok (.iload_n 2, 1) := by decide +kernel
theorem dX9_writeExhibit_69 : decode cX9_writeExhibit 69 = .ok (.iconst 0, 1) := by decide +kernel
theorem dX9_writeExhibit_70 : decode cX9_writeExhibit 70 = .ok (.invokevirtual 139, 3) := by decide +kernel
theorem dX9_writeExhibit_73 : decode cX9_writeExhibit 73 = .ok (.aload_n 0, 1) := by decide +kernel
theorem dX9_writeExhibit_74 : decode cX9_writeExhibit 74 = .ok (.bipush 48, 2) := by decide +kernel
theorem dX9_writeExhibit_76 : decode cX9_writeExhibit 76 = .ok (.iload_n 1, 1) := by decide +kernel
theorem dX9_writeExhibit_77 : decode cX9_writeExhibit 77 = .ok (.bipush 10, 2) := by decide +kernel
theorem dX9_writeExhibit_79 : decode cX9_writeExhibit 79 = .ok (.irem, 1) := by decide +kernel
theorem dX9_writeExhibit_80 : decode cX9_writeExhibit 80 = .ok (.iadd, 1) := by decide +kernel
theorem dX9_writeExhibit_81 : decode cX9_writeExhibit 81 = .ok (.iload_n 2, 1) := by decide +kernel
theorem dX9_writeExhibit_82 : decode cX9_writeExhibit 82 = .ok (.iconst 0, 1) := by decide +kernel
theorem dX9_writeExhibit_83 : decode cX9_writeExhibit 83 = .ok (.invokevirtual 139, 3) := by decide +kernel
theorem dX9_writeExhibit_86 : decode cX9_writeExhibit 86 = .ok (.return_, 1) := by decide +kernel
theorem dX9_file_0 : decode cX9_file 0 = .ok (.aload_n 0, 1) := by decide +kernel
theorem dX9_file_1 : decode cX9_file 1 = .ok (.iconst 0, 1) := by decide +kernel
theorem dX9_file_2 : decode cX9_file 2 = .ok (.putfield 91, 3) := by decide +kernel
theorem dX9_file_5 : decode cX9_file 5 = .ok (.aload_n 0, 1) := by decide +kernel
theorem dX9_file_6 : decode cX9_file 6 = .ok (.iload_n 1, 1) := by decide +kernel
theorem dX9_file_7 : decode cX9_file 7 = .ok (.invokevirtual 147, 3) := by decide +kernel
theorem dX9_file_10 : decode cX9_file 10 = .ok (.ifCond .ne 9, 3) := by decide +kernel
theorem dX9_file_13 : decode cX9_file 13 = .ok (.aload_n 0, 1) := by decide +kernel
theorem dX9_file_14 : decode cX9_file 14 = .ok (.iconst 1, 1) := by decide +kernel
theorem dX9_file_15 : decode cX9_file 15 = .ok (.invokevirtual 113, 3) := by decide +kernel
theorem dX9_file_18 : decode cX9_file 18 = .ok (.ireturn, 1) := by decide +kernel
theorem dX9_file_19 : decode cX9_file 19 = .ok (.aload_n 0, 1) := by decide +kernel
theorem dX9_file_20 : decode cX9_file 20 = .ok (.getfield 104, 3) := by decide +kernel
theorem dX9_file_23 : decode cX9_file 23 = .ok (.bipush 24, 2) := by decide +kernel
theorem dX9_file_25 : decode cX9_file 25 = .ok (.if_icmp .ne 9, 3) := by decide +kernel
theorem dX9_file_28 : decode cX9_file 28 = .ok (.aload_n 0, 1) := by decide +kernel
theorem dX9_file_29 : decode cX9_file 29 = .ok (.iconst 2, 1) := by decide +kernel
theorem dX9_file_30 : decode cX9_file 30 = .ok (.invokevirtual 113, 3) := by decide +kernel
theorem dX9_file_33 : decode cX9_file 33 = .ok (.ireturn, 1) := by decide +kernel
theorem dX9_file_34 : decode cX9_file 34 = .ok (.aload_n 0, 1) := by decide +kernel
theorem dX9_file_35 : decode cX9_file 35 = .ok (.aload_n 0, 1) := by decide +kernel
theorem dX9_file_36 : decode cX9_file 36 = .ok (.iload_n 1, 1) := by decide +kernel
theorem dX9_file_37 : decode cX9_file 37 = .ok (.invokevirtual 150, 3) := by decide +kernel
theorem dX9_file_40 : decode cX9_file 40 = .ok (.putfield 13, 3) := by decide +kernel
theorem dX9_file_43 : decode cX9_file 43 = .ok (.aload_n 0, 1) := by decide +kernel
theorem dX9_file_44 : decode cX9_file 44 = .ok (.getfield 13, 3) := by decide +kernel
theorem dX9_file_47 : decode cX9_file 47 = .ok (.iconst (-1), 1) := by decide +kernel
theorem dX9_file_48 : decode cX9_file 48 = .ok (.if_icmp .eq 7, 3) := by decide +kernel
theorem dX9_file_51 : decode cX9_file 51 = .ok (.iconst 1, 1) := by decide +kernel
theorem dX9_file_52 : decode cX9_file 52 = .ok (.goto 4, 3) := by decide +kernel
theorem dX9_file_55 : decode cX9_file 55 = .ok (.iconst 0, 1) := by decide +kernel
theorem dX9_file_56 : decode cX9_file 56 = .ok (.istore_n 2, 1) := by decide +kernel
theorem dX9_file_57 : decode cX9_file 57 = .ok (.iload_n 2, 1) := by decide +kernel
theorem dX9_file_58 : decode cX9_file 58 = .ok (.ifCond .ne 11, 3) := by decide +kernel
theorem dX9_file_61 : decode cX9_file 61 = .ok (.aload_n 0, 1) := by decide +kernel
theorem dX9_file_62 : decode cX9_file 62 = .ok (.aload_n 0, 1) := by decide +kernel
theorem dX9_file_63 : decode cX9_file 63 = .ok (.getfield 120, 3) := by decide +kernel
theorem dX9_file_66 : decode cX9_file 66 = .ok (.putfield 13, 3) := by decide +kernel
theorem dX9_file_69 : decode cX9_file 69 = .ok (.aload_n 0, 1) := by decide +kernel
theorem dX9_file_70 : decode cX9_file 70 = .ok (.iconst 0, 1) := by decide +kernel
theorem dX9_file_71 : decode cX9_file 71 = .ok (.putfield 110, 3) := by decide +kernel
theorem dX9_file_74 : decode cX9_file 74 = .ok (.aload_n 0, 1) := by decide +kernel
theorem dX9_file_75 : decode cX9_file 75 = .ok (.getfield 13, 3) := by decide +kernel
theorem dX9_file_78 : decode cX9_file 78 = .ok (.iconst (-1), 1) := by decide +kernel
theorem dX9_file_79 : decode cX9_file 79 = .ok (.if_icmp .eq 14, 3) := by decide +kernel
theorem dX9_file_82 : decode cX9_file 82 = .ok (.iload_n 2, 1) := by decide +kernel
theorem dX9_file_83 : decode cX9_file 83 = .ok (.ifCond .eq 7, 3) := by decide +kernel
theorem dX9_file_86 : decode cX9_file 86 = .ok (.iconst (-1), 1) := by decide +kernel
theorem dX9_file_87 : decode cX9_file 87 = .ok (.goto 5, 3) := by decide +kernel
theorem dX9_file_90 : decode cX9_file 90 = .ok (.bipush (-2), 2) := by decide +kernel
theorem dX9_file_92 : decode cX9_file 92 = .ok (.ireturn, 1) := by decide +kernel
theorem dX9_file_93 : decode cX9_file 93 = .ok (.aload_n 0, 1) := by decide +kernel
theorem dX9_file_94 : decode cX9_file 94 = .ok (.getfield 33, 3) := by decide +kernel
theorem dX9_file_97 : decode cX9_file 97 = .ok (.aload_n 0, 1) := by decide +kernel
theorem dX9_file_98 : decode cX9_file 98 = .ok (.getfield 104, 3) := by decide +kernel
theorem dX9_file_101 : decode cX9_file 101 = .ok (.aload_n 0, 1) := by decide +kernel
theorem dX9_file_102 : decode cX9_file 102 = .ok (.getfield 82, 3) := by decide +kernel
theorem dX9_file_105 : decode cX9_file 105 = .ok (.aload_n 0, 1) := by decide +kernel
theorem dX9_file_106 : decode cX9_file 106 = .ok (.getfield 117, 3) := by decide +kernel
theorem dX9_file_109 : decode cX9_file 109 = .ok (.invokestatic 153, 3) := by decide +kernel
theorem dX9_file_112 : decode cX9_file 112 = .ok (.aastore, 1) := by decide +kernel
theorem dX9_file_113 : decode cX9_file 113 = .ok (.aload_n 0, 1) := by decide +kernel
theorem dX9_file_114 : decode cX9_file 114 = .ok (.getfield 37, 3) := by decide +kernel
theorem dX9_file_117 : decode cX9_file 117 = .ok (.aload_n 0, 1) := by decide +kernel
theorem dX9_file_118 : decode cX9_file 118 = .ok (.getfield 104, 3) := by decide +kernel
theorem dX9_file_121 : decode cX9_file 121 = .ok (.aload_n 0, 1) := by decide +kernel
theorem dX9_file_122 : decode cX9_file 122 = .ok (.getfield 85, 3) := by decide +kernel
theorem dX9_file_125 : decode cX9_file 125 = .ok (.aload_n 0, 1) := by decide +kernel
theorem dX9_file_126 : decode cX9_file 126 = .ok (.getfield 117, 3) := by decide +kernel
theorem dX9_file_129 : decode cX9_file 129 = .ok (.invokestatic 153, 3) := by decide +kernel
theorem dX9_file_132 : decode cX9_file 132 = .ok (.aastore, 1) := by decide +kernel
theorem dX9_file_133 : decode cX9_file 133 = .ok (.aload_n 0, 1) := by decide +kernel
theorem dX9_file_134 : decode cX9_file 134 = .ok (.getfield 40, 3) := by decide +kernel
theorem dX9_file_137 : decode cX9_file 137 = .ok (.aload_n 0, 1) := by decide +kernel
theorem dX9_file_138 : decode cX9_file 138 = .ok (.getfield 104, 3) := by decide +kernel
theorem dX9_file_141 : decode cX9_file 141 = .ok (.aload_n 0, 1) := by decide +kernel
theorem dX9_file_142 : decode cX9_file 142 = .ok (.getfield 88, 3) := by decide +kernel
theorem dX9_file_145 : decode cX9_file 145 = .ok (.aload_n 0, 1) := by decide +kernel
theorem dX9_file_146 : decode cX9_file 146 = .ok (.getfield 117, 3) := by decide +kernel
theorem dX9_file_149 : decode cX9_file 149 = .ok (.invokestatic 153, 3) := by decide +kernel
theorem dX9_file_152 : decode cX9_file 152 = .ok (.aastore, 1) := by decide +kernel
theorem dX9_file_153 : decode cX9_file 153 = .ok (.aload_n 0, 1) := by decide +kernel
theorem dX9_file_154 : decode cX9_file 154 = .ok (.getfield 43, 3) := by decide +kernel
theorem dX9_file_157 : decode cX9_file 157 = .ok (.aload_n 0, 1) := by decide +kernel
theorem dX9_file_158 : decode cX9_file 158 = .ok (.getfield 104, 3) := by decide +kernel
theorem dX9_file_161 : decode cX9_file 161 = .ok (.aload_n 0, 1) := by decide +kernel
theorem dX9_file_162 : decode cX9_file 162 = .ok (.getfield 123, 3) := by decide +kernel
theorem dX9_file_165 : decode cX9_file 165 = .ok (.iastore, 1) := by decide +kernel
theorem dX9_file_166 : decode cX9_file 166 = .ok (.aload_n 0, 1) := by decide +kernel
theorem dX9_file_167 : decode cX9_file 167 = .ok (.getfield 29, 3) := by decide +kernel
theorem dX9_file_170 : decode cX9_file 170 = .ok (.aload_n 0, 1) := by decide +kernel
theorem dX9_file_171 : decode cX9_file 171 = .ok (.getfield 104, 3) := by decide +kernel
theorem dX9_file_174 : decode cX9_file 174 = .ok (.iload_n 1, 1) := by decide +kernel
theorem dX9_file_175 : decode cX9_file 175 = .ok (.iastore, 1) := by decide +kernel
theorem dX9_file_176 : decode cX9_file 176 = .ok (.aload_n 0, 1) := by decide +kernel
theorem dX9_file_177 : decode cX9_file 177 = .ok (.getfield 75, 3) := by decide +kernel
theorem dX9_file_180 : decode cX9_file 180 = .ok (.getfield 158, 3) := by decide +kernel
theorem dX9_file_183 : decode cX9_file 183 = .ok (.aload_n 0, 1) := by decide +kernel
theorem dX9_file_184 : decode cX9_file 184 = .ok (.getfield 104, 3) := by decide +kernel
theorem dX9_file_187 : decode cX9_file 187 = .ok (.iconst (-1), 1) := by decide +kernel
theorem dX9_file_188 : decode cX9_file 188 = .ok (.iastore, 1) := by decide +kernel
theorem dX9_file_189 : decode cX9_file 189 = .ok (.aload_n 0, 1) := by decide +kernel
theorem dX9_file_190 : decode cX9_file 190 = .ok (.getfield 75, 3) := by decide +kernel
theorem dX9_file_193 : decode cX9_file 193 = .ok (.getfield 161, 3) := by decide +kernel
theorem dX9_file_196 : decode cX9_file 196 = .ok (.aload_n 0, 1) := by decide +kernel
theorem dX9_file_197 : decode cX9_file 197 = .ok (.getfield 104, 3) := by decide +kernel
theorem dX9_file_200 : decode cX9_file 200 = .ok (.iconst (-1), 1) := by decide +kernel
theorem dX9_file_201 : decode cX9_file 201 = .ok (.iastore, 1) := by decide +kernel
theorem dX9_file_202 : decode cX9_file 202 = .ok (.aload_n 0, 1) := by decide +kernel
theorem dX9_file_203 : decode cX9_file 203 = .ok (.dup, 1) := by decide +kernel
theorem dX9_file_204 : decode cX9_file 204 = .ok (.getfield 104, 3) := by decide +kernel
theorem dX9_file_207 : decode cX9_file 207 = .ok (.iconst 1, 1) := by decide +kernel
theorem dX9_file_208 : decode cX9_file 208 = .ok (.iadd, 1) := by decide +kernel
theorem dX9_file_209 : decode cX9_file 209 = .ok (.putfield 104, 3) := by decide +kernel
theorem dX9_file_212 : decode cX9_file 212 = .ok (.aload_n 0, 1) := by decide +kernel
theorem dX9_file_213 : decode cX9_file 213 = .ok (.getfield 104, 3) := by decide +kernel
theorem dX9_file_216 : decode cX9_file 216 = .ok (.iconst 1, 1) := by decide +kernel
theorem dX9_file_217 : decode cX9_file 217 = .ok (.isub, 1) := by decide +kernel
theorem dX9_file_218 : decode cX9_file 218 = .ok (.ireturn, 1) := by decide +kernel
theorem dX9_errorAt_0 : decode cX9_errorAt 0 = .ok (.aload_n 0, 1) := by decide +kernel
theorem dX9_errorAt_1 : decode cX9_errorAt 1 = .ok (.iconst 0, 1) := by decide +kernel
theorem dX9_errorAt_2 : decode cX9_errorAt 2 = .ok (.putfield 91, 3) := by decide +kernel
theorem dX9_errorAt_5 : decode cX9_errorAt 5 = .ok (.aload_n 0, 1) := by decide +kernel
theorem dX9_errorAt_6 : decode cX9_errorAt 6 = .ok (.getfield 13, 3) := by decide +kernel
theorem dX9_errorAt_9 : decode cX9_errorAt 9 = .ok (.ireturn, 1) := by decide +kernel
theorem dX9_veil_0 : decode cX9_veil 0 = .ok (.aload_n 0, 1) := by decide +kernel
theorem dX9_veil_1 : decode cX9_veil 1 = .ok (.iconst 0, 1) := by decide +kernel
theorem dX9_veil_2 : decode cX9_veil 2 = .ok (.putfield 91, 3) := by decide +kernel
theorem dX9_veil_5 : decode cX9_veil 5 = .ok (.aload_n 0, 1) := by decide +kernel
theorem dX9_veil_6 : decode cX9_veil 6 = .ok (.iload_n 1, 1) := by decide +kernel
theorem dX9_veil_7 : decode cX9_veil 7 = .ok (.invokevirtual 164, 3) := by decide +kernel
theorem dX9_veil_10 : decode cX9_veil 10 = .ok (.ifCond .ne 9, 3) := by decide +kernel
theorem dX9_veil_13 : decode cX9_veil 13 = .ok (.aload_n 0, 1) := by decide +kernel
theorem dX9_veil_14 : decode cX9_veil 14 = .ok (.iconst 1, 1) := by decide +kernel
theorem dX9_veil_15 : decode cX9_veil 15 = .ok (.invokevirtual 113, 3) := by decide +kernel
theorem dX9_veil_18 : decode cX9_veil 18 = .ok (.ireturn, 1) := by decide +kernel
theorem dX9_veil_19 : decode cX9_veil 19 = .ok (.iload_n 2, 1) := by decide +kernel
theorem dX9_veil_20 : decode cX9_veil 20 = .ok (.iconst 0, 1) := by decide +kernel
theorem dX9_veil_21 : decode cX9_veil 21 = .ok (.iload_n 3, 1) := by decide +kernel
theorem dX9_veil_22 : decode cX9_veil 22 = .ok (.invokestatic 97, 3) := by decide +kernel
theorem dX9_veil_25 : decode cX9_veil 25 = .ok (.ifCond .eq 25, 3) := by decide +kernel
theorem dX9_veil_28 : decode cX9_veil 28 = .ok (.iload_n 3, 1) := by decide +kernel
theorem dX9_veil_29 : decode cX9_veil 29 = .ok (.aload_n 0, 1) := by decide +kernel
theorem dX9_veil_30 : decode cX9_veil 30 = .ok (.getfield 33, 3) := by decide +kernel
theorem dX9_veil_33 : decode cX9_veil 33 = .ok (.iload_n 1, 1) := by decide +kernel
theorem dX9_veil_34 : decode cX9_veil 34 = .ok (.aaload, 1) := by decide +kernel
theorem dX9_veil_35 : decode cX9_veil 35 = .ok (.arraylength, 1) := by decide +kernel
theorem dX9_veil_36 : decode cX9_veil 36 = .ok (.if_icmp .gt 14, 3) := by decide +kernel
theorem dX9_veil_39 : decode cX9_veil 39 = .ok (.iload 4, 2) := by decide +kernel
theorem dX9_veil_41 : decode cX9_veil 41 = .ok (.iconst 0, 1) := by decide +kernel
theorem dX9_veil_42 : decode cX9_veil 42 = .ok (.bipush 9, 2) := by decide +kernel
theorem dX9_veil_44 : decode cX9_veil 44 = .ok (.invokestatic 97, 3) := by decide +kernel
theorem dX9_veil_47 : decode cX9_veil 47 = .ok (.ifCond .ne 9, 3) := by decide +kernel
theorem dX9_veil_50 : decode cX9_veil 50 = .ok (.aload_n 0, 1) := by decide +kernel
theorem dX9_veil_51 : decode cX9_veil 51 = .ok (.iconst 2, 1) := by decide +kernel
theorem dX9_veil_52 : decode cX9_veil 52 = .ok (.invokevirtual 113, 3) := by decide +kernel
theorem dX9_veil_55 : decode cX9_veil 55 = .ok (.ireturn, 1) := by decide +kernel
theorem dX9_veil_56 : decode cX9_veil 56 = .ok (.iconst 0, 1) := by decide +kernel
theorem dX9_veil_57 : decode cX9_veil 57 = .ok (.istore 5, 2) := by decide +kernel
theorem dX9_veil_59 : decode cX9_veil 59 = .ok (.iload_n 2, 1) := by decide +kernel
theorem dX9_veil_60 : decode cX9_veil 60 = .ok (.istore 6, 2) := by decide +kernel
theorem dX9_veil_62 : decode cX9_veil 62 = .ok (.iload 6, 2) := by decide +kernel
theorem dX9_veil_64 : decode cX9_veil 64 = .ok (.iload_n 3, 1) := by decide +kernel
theorem dX9_veil_65 : decode cX9_veil 65 = .ok (.if_icmp .ge 44, 3) := by decide +kernel
theorem dX9_veil_68 : decode cX9_veil 68 = .ok (.iload 5, 2) := by decide +kernel
theorem dX9_veil_70 : decode cX9_veil 70 = .ok (.aload_n 0, 1) := by decide +kernel
theorem dX9_veil_71 : decode cX9_veil 71 = .ok (.getfield 37, 3) := by decide +kernel
theorem dX9_veil_74 : decode cX9_veil 74 = .ok (.iload_n 1, 1) := by decide +kernel
theorem dX9_veil_75 : decode cX9_veil 75 = .ok (.aaload, 1) := by decide +kernel
theorem dX9_veil_76 : decode cX9_veil 76 = .ok (.iload 6, 2) := by decide +kernel
theorem dX9_veil_78 : decode cX9_veil 78 = .ok (.iaload, 1) := by decide +kernel
theorem dX9_veil_79 : decode cX9_veil 79 = .ok (.iload 4, 2) := by decide +kernel
theorem dX9_veil_81 : decode cX9_veil 81 = .ok (.if_icmp .ne 7, 3) := by decide +kernel
theorem dX9_veil_84 : decode cX9_veil 84 = .ok (.iconst 0, 1) := by decide +kernel
theorem dX9_veil_85 : decode cX9_veil 85 = .ok (.goto 4, 3) := by decide +kernel
theorem dX9_veil_88 : decode cX9_veil 88 = .ok (.iconst 1, 1) := by decide +kernel
theorem dX9_veil_89 : decode cX9_veil 89 = .ok (.iadd, 1) := by decide +kernel
theorem dX9_veil_90 : decode cX9_veil 90 = .ok (.istore 5, 2) := by decide +kernel
theorem dX9_veil_92 : decode cX9_veil 92 = .ok (.aload_n 0, 1) := by decide +kernel
theorem dX9_veil_93 : decode cX9_veil 93 = .ok (.getfield 37, 3) := by decide +kernel
theorem dX9_veil_96 : decode cX9_veil 96 = .ok (.iload_n 1, 1) := by decide +kernel
theorem dX9_veil_97 : decode cX9_veil 97 = .ok (.aaload, 1) := by decide +kernel
theorem dX9_veil_98 : decode cX9_veil 98 = .ok (.iload 6, 2) := by decide +kernel
theorem dX9_veil_100 : decode cX9_veil 100 = .ok (.iload 4, 2) := by decide +kernel
theorem dX9_veil_102 : decode cX9_veil 102 = .ok (.iastore, 1) := by decide +kernel
theorem dX9_veil_103 : decode cX9_veil 103 = .ok (.iinc 6 1, 3) := by decide +kernel
theorem dX9_veil_106 : decode cX9_veil 106 = .ok (.goto (-44), 3) := by decide +kernel
theorem dX9_veil_109 : decode cX9_veil 109 = .ok (.iload 5, 2) := by decide +kernel
theorem dX9_veil_111 : decode cX9_veil 111 = .ok (.ireturn, 1) := by decide +kernel
theorem dX9_documentTold_0 : decode cX9_documentTold 0 = .ok (.iconst 0, 1) := by decide +kernel
theorem dX9_documentTold_1 : decode cX9_documentTold 1 = .ok (.istore_n 3, 1) := by decide +kernel
theorem dX9_documentTold_2 : decode cX9_documentTold 2 = .ok (.iconst 0, 1) := by decide +kernel
theorem dX9_documentTold_3 : decode cX9_documentTold 3 = .ok (.istore 4, 2) := by decide +kernel
theorem dX9_documentTold_5 : decode cX9_documentTold 5 = .ok (.iconst 0, 1) := by decide +kernel
theorem dX9_documentTold_6 : decode cX9_documentTold 6 = .ok (.istore 5, 2) := by decide +kernel
theorem dX9_documentTold_8 : decode cX9_documentTold 8 = .ok (.iconst 0, 1) := by decide +kernel
theorem dX9_documentTold_9 : decode cX9_documentTold 9 = .ok (.istore 6, 2) := by decide +kernel
theorem dX9_documentTold_11 : decode cX9_documentTold 11 = .ok (.iload 6, 2) := by decide +kernel
theorem dX9_documentTold_13 : decode cX9_documentTold 13 = .ok (.aload_n 0, 1) := by decide +kernel
theorem dX9_documentTold_14 : decode cX9_documentTold 14 = .ok (.getfield 33, 3) := by decide +kernel
theorem dX9_documentTold_17 : decode cX9_documentTold 17 = .ok (.iload_n 1, 1) := by decide +kernel
theorem dX9_documentTold_18 : decode cX9_documentTold 18 = .ok (.aaload, 1) := by decide +kernel
theorem dX9_documentTold_19 : decode cX9_documentTold 19 = .ok (.arraylength, 1) := by decide +kernel
theorem dX9_documentTold_20 : decode cX9_documentTold 20 = .ok (.if_icmp .ge 59, 3) := by decide +kernel
theorem dX9_documentTold_23 : decode cX9_documentTold 23 = .ok (.iload_n 3, 1) := by decide +kernel
theorem dX9_documentTold_24 : decode cX9_documentTold 24 = .ok (.aload_n 0, 1) := by decide +kernel
theorem dX9_documentTold_25 : decode cX9_documentTold 25 = .ok (.getfield 37, 3) := by decide +kernel
theorem dX9_documentTold_28 : decode cX9_documentTold 28 = .ok (.iload_n 1, 1) := by decide +kernel
theorem dX9_documentTold_29 : decode cX9_documentTold 29 = .ok (.aaload, 1) := by decide +kernel
theorem dX9_documentTold_30 : decode cX9_documentTold 30 = .ok (.iload 6, 2) := by decide +kernel
theorem dX9_documentTold_32 : decode cX9_documentTold 32 = .ok (.iaload, 1) := by decide +kernel
theorem dX9_documentTold_33 : decode cX9_documentTold 33 = .ok (.ifCond .le 7, 3) := by decide +kernel
theorem dX9_documentTold_36 : decode cX9_documentTold 36 = .ok (.iconst 1, 1) := by decide +kernel
theorem dX9_documentTold_37 : decode cX9_documentTold 37 = .ok (.goto 4, 3) := by decide +kernel
theorem dX9_documentTold_40 : decode cX9_documentTold 40 = .ok (.iconst 0, 1) := by decide +kernel
theorem dX9_documentTold_41 : decode cX9_documentTold 41 = .ok (.iadd, 1) := by decide +kernel
theorem dX9_documentTold_42 : decode cX9_documentTold 42 = .ok (.istore_n 3, 1) := by decide +kernel
theorem dX9_documentTold_43 : decode cX9_documentTold 43 = .ok (.iload 4, 2) := by decide +kernel
theorem dX9_documentTold_45 : decode cX9_documentTold 45 = .ok (.aload_n 0, 1) := by decide +kernel
theorem dX9_documentTold_46 : decode cX9_documentTold 46 = .ok (.getfield 37, 3) := by decide +kernel
theorem dX9_documentTold_49 : decode cX9_documentTold 49 = .ok (.iload_n 1, 1) := by decide +kernel
theorem dX9_documentTold_50 : decode cX9_documentTold 50 = .ok (.aaload, 1) := by decide +kernel
theorem dX9_documentTold_51 : decode cX9_documentTold 51 = .ok (.iload 6, 2) := by decide +kernel
theorem dX9_documentTold_53 : decode cX9_documentTold 53 = .ok (.iaload, 1) := by decide +kernel
theorem dX9_documentTold_54 : decode cX9_documentTold 54 = .ok (.invokestatic 129, 3) := by decide +kernel
theorem dX9_documentTold_57 : decode cX9_documentTold 57 = .ok (.istore 4, 2) := by decide +kernel
theorem dX9_documentTold_59 : decode cX9_documentTold 59 = .ok (.iload 5, 2) := by decide +kernel
theorem dX9_documentTold_61 : decode cX9_documentTold 61 = .ok (.aload_n 0, 1) := by decide +kernel
theorem dX9_documentTold_62 : decode cX9_documentTold 62 = .ok (.getfield 40, 3) := by decide +kernel
theorem dX9_documentTold_65 : decode cX9_documentTold 65 = .ok (.iload_n 1, 1) := by decide +kernel
theorem dX9_documentTold_66 : decode cX9_documentTold 66 = .ok (.aaload, 1) := by decide +kernel
theorem dX9_documentTold_67 : decode cX9_documentTold 67 = .ok (.iload 6, 2) := by decide +kernel
theorem dX9_documentTold_69 : decode cX9_documentTold 69 = .ok (.iaload, 1) := by decide +kernel
theorem dX9_documentTold_70 : decode cX9_documentTold 70 = .ok (.iadd, 1) := by decide +kernel
theorem dX9_documentTold_71 : decode cX9_documentTold 71 = .ok (.istore 5, 2) := by decide +kernel
theorem dX9_documentTold_73 : decode cX9_documentTold 73 = .ok (.iinc 6 1, 3) := by decide +kernel
theorem dX9_documentTold_76 : decode cX9_documentTold 76 = .ok (.goto (-65), 3) := by decide +kernel
theorem dX9_documentTold_79 : decode cX9_documentTold 79 = .ok (.bipush 8, 2) := by decide +kernel
theorem dX9_documentTold_81 : decode cX9_documentTold 81 = .ok (.newarray .int, 2) := by decide +kernel
theorem dX9_documentTold_83 : decode cX9_documentTold 83 = .ok (.dup, 1) := by decide +kernel
theorem dX9_documentTold_84 : decode cX9_documentTold 84 = .ok (.iconst 0, 1) := by decide +kernel
theorem dX9_documentTold_85 : decode cX9_documentTold 85 = .ok (.aload_n 0, 1) := by decide +kernel
theorem dX9_documentTold_86 : decode cX9_documentTold 86 = .ok (.getfield 29, 3) := by decide +kernel
theorem dX9_documentTold_89 : decode cX9_documentTold 89 = .ok (.iload_n 1, 1) := by decide +kernel
theorem dX9_documentTold_90 : decode cX9_documentTold 90 = .ok (.iaload, 1) := by decide +kernel
theorem dX9_documentTold_91 : decode cX9_documentTold 91 = .ok (.iastore, 1) := by decide +kernel
theorem dX9_documentTold_92 : decode cX9_documentTold 92 = .ok (.dup, 1) := by decide +kernel
theorem dX9_documentTold_93 : decode cX9_documentTold 93 = .ok (.iconst 1, 1) := by decide +kernel
theorem dX9_documentTold_94 : decode cX9_documentTold 94 = .ok (.aload_n 0, 1) := by decide +kernel
theorem dX9_documentTold_95 : decode cX9_documentTold 95 = .ok (.getfield 33, 3) := by decide +kernel
theorem dX9_documentTold_98 : decode cX9_documentTold 98 = .ok (.iload_n 1, 1) := by decide +kernel
theorem dX9_documentTold_99 : decode cX9_documentTold 99 = .ok (.aaload, 1) := by decide +kernel
theorem dX9_documentTold_100 : decode cX9_documentTold 100 = .ok (.arraylength, 1) := by decide +kernel
theorem dX9_documentTold_101 : decode cX9_documentTold 101 = .ok (.iastore, 1) := by decide +kernel
theorem dX9_documentTold_102 : decode cX9_documentTold 102 = .ok (.dup, 1) := by decide +kernel
theorem dX9_documentTold_103 : decode cX9_documentTold 103 = .ok (.iconst 2, 1) := by decide +kernel
theorem dX9_documentTold_104 : decode cX9_documentTold 104 = .ok (.iload_n 3, 1) := by decide +kernel
theorem dX9_documentTold_105 : decode cX9_documentTold 105 = .ok (.iastore, 1) := by decide +kernel
theorem dX9_documentTold_106 : decode cX9_documentTold 106 = .ok (.dup, 1) := by decide +kernel
theorem dX9_documentTold_107 : decode cX9_documentTold 107 = .ok (.iconst 3, 1) := by decide +kernel
theorem dX9_documentTold_108 : decode cX9_documentTold 108 = .ok (.iload 4, 2) := by decide +kernel
theorem dX9_documentTold_110 : decode cX9_documentTold 110 = .ok (.iastore, 1) := by decide +kernel
theorem dX9_documentTold_111 : decode cX9_documentTold 111 = .ok (.dup, 1) := by decide +kernel
theorem dX9_documentTold_112 : decode cX9_documentTold 112 = .ok (.iconst 4, 1) := by decide +kernel
theorem dX9_documentTold_113 : decode cX9_documentTold 113 = .ok (.iload 5, 2) := by decide +kernel
theorem dX9_documentTold_115 : decode cX9_documentTold 115 = .ok (.iastore, 1) := by decide +kernel
theorem dX9_documentTold_116 : decode cX9_documentTold 116 = .ok (.dup, 1) := by decide +kernel
theorem dX9_documentTold_117 : decode cX9_documentTold 117 = .ok (.iconst 5, 1) := by decide +kernel
theorem dX9_documentTold_118 : decode cX9_documentTold 118 = .ok (.aload_n 0, 1) := by decide +kernel
theorem dX9_documentTold_119 : decode cX9_documentTold 119 = .ok (.getfield 75, 3) := by decide +kernel
theorem dX9_documentTold_122 : decode cX9_documentTold 122 = .ok (.getfield 158, 3) := by decide +kernel
theorem dX9_documentTold_125 : decode cX9_documentTold 125 = .ok (.iload_n 1, 1) := by decide +kernel
theorem dX9_documentTold_126 : decode cX9_documentTold 126 = .ok (.iaload, 1) := by decide +kernel
theorem dX9_documentTold_127 : decode cX9_documentTold 127 = .ok (.iastore, 1) := by decide +kernel
theorem dX9_documentTold_128 : decode cX9_documentTold 128 = .ok (.dup, 1) := by decide +kernel
theorem dX9_documentTold_129 : decode cX9_documentTold 129 = .ok (.bipush 6, 2) := by decide +kernel
theorem dX9_documentTold_131 : decode cX9_documentTold 131 = .ok (.aload_n 0, 1) := by decide +kernel
theorem dX9_documentTold_132 : decode cX9_documentTold 132 = .ok (.getfield 75, 3) := by decide +kernel
theorem dX9_documentTold_135 : decode cX9_documentTold 135 = .ok (.getfield 161, 3) := by decide +kernel
theorem dX9_documentTold_138 : decode cX9_documentTold 138 = .ok (.iload_n 1, 1) := by decide +kernel
theorem dX9_documentTold_139 : decode cX9_documentTold 139 = .ok (.iaload, 1) := by decide +kernel
theorem dX9_documentTold_140 : decode cX9_documentTold 140 = .ok (.iastore, 1) := by decide +kernel
theorem dX9_documentTold_141 : decode cX9_documentTold 141 = .ok (.dup, 1) := by decide +kernel
theorem dX9_documentTold_142 : decode cX9_documentTold 142 = .ok (.bipush 7, 2) := by decide +kernel
theorem dX9_documentTold_144 : decode cX9_documentTold 144 = .ok (.aload_n 0, 1) := by decide +kernel
theorem dX9_documentTold_145 : decode cX9_documentTold 145 = .ok (.getfield 75, 3) := by decide +kernel
theorem dX9_documentTold_148 : decode cX9_documentTold 148 = .ok (.getfield 167, 3) := by decide +kernel
theorem dX9_documentTold_151 : decode cX9_documentTold 151 = .ok (.iload_n 1, 1) := by decide +kernel
theorem dX9_documentTold_152 : decode cX9_documentTold 152 = .ok (.iaload, 1) := by decide +kernel
theorem dX9_documentTold_153 : decode cX9_documentTold 153 = .ok (.iastore, 1) := by decide +kernel
theorem dX9_documentTold_154 : decode cX9_documentTold 154 = .ok (.astore 6, 2) := by decide +kernel
theorem dX9_documentTold_156 : decode cX9_documentTold 156 = .ok (.aload 6, 2) := by decide +kernel
theorem dX9_documentTold_158 : decode cX9_documentTold 158 = .ok (.iload_n 2, 1) := by decide +kernel
theorem dX9_documentTold_159 : decode cX9_documentTold 159 = .ok (.iaload, 1) := by decide +kernel
theorem dX9_documentTold_160 : decode cX9_documentTold 160 = .ok (.ireturn, 1) := by decide +kernel
theorem dX9_document_0 : decode cX9_document 0 = .ok (.aload_n 0, 1) := by decide +kernel
theorem dX9_document_1 : decode cX9_document 1 = .ok (.iconst 0, 1) := by decide +kernel
theorem dX9_document_2 : decode cX9_document 2 = .ok (.putfield 91, 3) := by decide +kernel
theorem dX9_document_5 : decode cX9_document 5 = .ok (.aload_n 0, 1) := by decide +kernel
theorem dX9_document_6 : decode cX9_document 6 = .ok (.iload_n 1, 1) := by decide +kernel
theorem dX9_document_7 : decode cX9_document 7 = .ok (.invokevirtual 164, 3) := by decide +kernel
theorem dX9_document_10 : decode cX9_document 10 = .ok (.ifCond .eq 22, 3) := by decide +kernel
theorem dX9_document_13 : decode cX9_document 13 = .ok (.iload_n 2, 1) := by decide +kernel
theorem dX9_document_14 : decode cX9_document 14 = .ok (.iconst 0, 1) := by decide +kernel
theorem dX9_document_15 : decode cX9_document 15 = .ok (.bipush 7, 2) := by decide +kernel
theorem dX9_document_17 : decode cX9_document 17 = .ok (.invokestatic 97, 3) := by decide +kernel
theorem dX9_document_20 : decode cX9_document 20 = .ok (.ifCond .eq 12, 3) := by decide +kernel
theorem dX9_document_23 : decode cX9_document 23 = .ok (.aload_n 0, 1) := by decide +kernel
theorem dX9_document_24 : decode cX9_document 24 = .ok (.iload_n 1, 1) := by decide +kernel
theorem dX9_document_25 : decode cX9_document 25 = .ok (.iload_n 2, 1) := by decide +kernel
theorem dX9_document_26 : decode cX9_document 26 = .ok (.invokevirtual 170, 3) := by decide +kernel
theorem dX9_document_29 : decode cX9_document 29 = .ok (.goto 8, 3) := by decide +kernel
theorem dX9_document_32 : decode cX9_document 32 = .ok (.aload_n 0, 1) := by decide +kernel
theorem dX9_document_33 : decode cX9_document 33 = .ok (.iconst 1, 1) := by decide +kernel
theorem dX9_document_34 : decode cX9_document 34 = .ok (.invokevirtual 113, 3) := by decide +kernel
theorem dX9_document_37 : decode cX9_document 37 = .ok (.ireturn, 1) := by decide +kernel
theorem dX9_open_0 : decode cX9_open 0 = .ok (.aload_n 0, 1) := by decide +kernel
theorem dX9_open_1 : decode cX9_open 1 = .ok (.iconst 0, 1) := by decide +kernel
theorem dX9_open_2 : decode cX9_open 2 = .ok (.putfield 91, 3) := by decide +kernel
theorem dX9_open_5 : decode cX9_open 5 = .ok (.iload_n 1, 1) := by decide +kernel
theorem dX9_open_6 : decode cX9_open 6 = .ok (.iconst 0, 1) := by decide +kernel
theorem dX9_open_7 : decode cX9_open 7 = .ok (.bipush 9, 2) := by decide +kernel
theorem dX9_open_9 : decode cX9_open 9 = .ok (.invokestatic 97, 3) := by decide +kernel
theorem dX9_open_12 : decode cX9_open 12 = .ok (.ifCond .ne 9, 3) := by decide +kernel
theorem dX9_open_15 : decode cX9_open 15 = .ok (.aload_n 0, 1) := by decide +kernel
theorem dX9_open_16 : decode cX9_open 16 = .ok (.iconst 1, 1) := by decide +kernel
theorem dX9_open_17 : decode cX9_open 17 = .ok (.invokevirtual 113, 3) := by decide +kernel
theorem dX9_open_20 : decode cX9_open 20 = .ok (.ireturn, 1) := by decide +kernel
theorem dX9_open_21 : decode cX9_open 21 = .ok (.aload_n 0, 1) := by decide +kernel
theorem dX9_open_22 : decode cX9_open 22 = .ok (.getfield 94, 3) := by decide +kernel
theorem dX9_open_25 : decode cX9_open 25 = .ok (.bipush 8, 2) := by decide +kernel
theorem dX9_open_27 : decode cX9_open 27 = .ok (.if_icmp .ne 9, 3) := by decide +kernel
theorem dX9_open_30 : decode cX9_open 30 = .ok (.aload_n 0, 1) := by decide +kernel
theorem dX9_open_31 : decode cX9_open 31 = .ok (.iconst 2, 1) := by decide +kernel
theorem dX9_open_32 : decode cX9_open 32 = .ok (.invokevirtual 113, 3) := by decide +kernel
theorem dX9_open_35 : decode cX9_open 35 = .ok (.ireturn, 1) := by decide +kernel
theorem dX9_open_36 : decode cX9_open 36 = .ok (.aload_n 0, 1) := by decide +kernel
theorem dX9_open_37 : decode cX9_open 37 = .ok (.getfield 20, 3) := by decide +kernel
theorem dX9_open_40 : decode cX9_open 40 = .ok (.aload_n 0, 1) := by decide +kernel
theorem dX9_open_41 : decode cX9_open 41 = .ok (.getfield 94, 3) := by decide +kernel
theorem dX9_open_44 : decode cX9_open 44 = .ok (.iload_n 1, 1) := by decide +kernel
theorem dX9_open_45 : decode cX9_open 45 = .ok (.iastore, 1) := by decide +kernel
theorem dX9_open_46 : decode cX9_open 46 = .ok (.aload_n 0, 1) := by decide +kernel
theorem dX9_open_47 : decode cX9_open 47 = .ok (.dup, 1) := by decide +kernel
theorem dX9_open_48 : decode cX9_open 48 = .ok (.getfield 94, 3) := by decide +kernel
theorem dX9_open_51 : decode cX9_open 51 = .ok (.iconst 1, 1) := by decide +kernel
theorem dX9_open_52 : decode cX9_open 52 = .ok (.iadd, 1) := by decide +kernel
theorem dX9_open_53 : decode cX9_open 53 = .ok (.putfield 94, 3) := by decide +kernel
theorem dX9_open_56 : decode cX9_open 56 = .ok (.aload_n 0, 1) := by decide +kernel
theorem dX9_open_57 : decode cX9_open 57 = .ok (.getfield 94, 3) := by decide +kernel
theorem dX9_open_60 : decode cX9_open 60 = .ok (.iconst 1, 1) := by decide +kernel
theorem dX9_open_61 : decode cX9_open 61 = .ok (.isub, 1) := by decide +kernel
theorem dX9_open_62 : decode cX9_open 62 = .ok (.ireturn, 1) := by decide +kernel
theorem dX9_seal_0 : decode cX9_seal 0 = .ok (.aload_n 0, 1) := by decide +kernel
theorem dX9_seal_1 : decode cX9_seal 1 = .ok (.iconst 0, 1) := by decide +kernel
theorem dX9_seal_2 : decode cX9_seal 2 = .ok (.putfield 91, 3) := by decide +kernel
theorem dX9_seal_5 : decode cX9_seal 5 = .ok (.aload_n 0, 1) := by decide +kernel
theorem dX9_seal_6 : decode cX9_seal 6 = .ok (.iload_n 1, 1) := by decide +kernel
theorem dX9_seal_7 : decode cX9_seal 7 = .ok (.invokevirtual 147, 3) := by decide +kernel
theorem dX9_seal_10 : decode cX9_seal 10 = .ok (.ifCond .ne 9, 3) := by decide +kernel
theorem dX9_seal_13 : decode cX9_seal 13 = .ok (.aload_n 0, 1) := by decide +kernel
theorem dX9_seal_14 : decode cX9_seal 14 = .ok (.iconst 1, 1) := by decide +kernel
theorem dX9_seal_15 : decode cX9_seal 15 = .ok (.invokevirtual 113, 3) := by decide +kernel
theorem dX9_seal_18 : decode cX9_seal 18 = .ok (.ireturn, 1) := by decide +kernel
theorem dX9_seal_19 : decode cX9_seal 19 = .ok (.iload_n 2, 1) := by decide +kernel
theorem dX9_seal_20 : decode cX9_seal 20 = .ok (.iconst 0, 1) := by decide +kernel
theorem dX9_seal_21 : decode cX9_seal 21 = .ok (.bipush 9, 2) := by decide +kernel
theorem dX9_seal_23 : decode cX9_seal 23 = .ok (.invokestatic 97, 3) := by decide +kernel
theorem dX9_seal_26 : decode cX9_seal 26 = .ok (.ifCond .ne 9, 3) := by decide +kernel
theorem dX9_seal_29 : decode cX9_seal 29 = .ok (.aload_n 0, 1) := by decide +kernel
theorem dX9_seal_30 : decode cX9_seal 30 = .ok (.iconst 2, 1) := by decide +kernel
theorem dX9_seal_31 : decode cX9_seal 31 = .ok (.invokevirtual 113, 3) := by decide +kernel
theorem dX9_seal_34 : decode cX9_seal 34 = .ok (.ireturn, 1) := by decide +kernel
theorem dX9_seal_35 : decode cX9_seal 35 = .ok (.aload_n 0, 1) := by decide +kernel
theorem dX9_seal_36 : decode cX9_seal 36 = .ok (.getfield 20, 3) := by decide +kernel
theorem dX9_seal_39 : decode cX9_seal 39 = .ok (.iload_n 1, 1) := by decide +kernel
theorem dX9_seal_40 : decode cX9_seal 40 = .ok (.iaload, 1) := by decide +kernel
theorem dX9_seal_41 : decode cX9_seal 41 = .ok (.istore_n 3, 1) := by decide +kernel
theorem dX9_seal_42 : decode cX9_seal 42 = .ok (.aload_n 0, 1) := by decide +kernel
theorem dX9_seal_43 : decode cX9_seal 43 = .ok (.getfield 20, 3) := by decide +kernel
theorem dX9_seal_46 : decode cX9_seal 46 = .ok (.iload_n 1, 1) := by decide +kernel
theorem dX9_seal_47 : decode cX9_seal 47 = .ok (.iload_n 2, 1) := by decide +kernel
theorem dX9_seal_48 : decode cX9_seal 48 = .ok (.iastore, 1) := by decide +kernel
theorem dX9_seal_49 : decode cX9_seal 49 = .ok (.iload_n 3, 1) := by decide +kernel
theorem dX9_seal_50 : decode cX9_seal 50 = .ok (.ireturn, 1) := by decide +kernel
theorem dX9_addPerson_0 : decode cX9_addPerson 0 = .ok (.aload_n 0, 1) := by decide +kernel
theorem dX9_addPerson_1 : decode cX9_addPerson 1 = .ok (.iconst 0, 1) := by decide +kernel
theorem dX9_addPerson_2 : decode cX9_addPerson 2 = .ok (.putfield 91, 3) := by decide +kernel
theorem dX9_addPerson_5 : decode cX9_addPerson 5 = .ok (.iload_n 1, 1) := by decide +kernel
theorem dX9_addPerson_6 : decode cX9_addPerson 6 = .ok (.iconst 0, 1) := by decide +kernel
theorem dX9_addPerson_7 : decode cX9_addPerson 7 = .ok (.iconst 3, 1) := by decide +kernel
theorem dX9_addPerson_8 : decode cX9_addPerson 8 = .ok (.invokestatic 97, 3) := by decide +kernel
theorem dX9_addPerson_11 : decode cX9_addPerson 11 = .ok (.ifCond .eq 13, 3) := by decide +kernel
theorem dX9_addPerson_14 : decode cX9_addPerson 14 = .ok (.iload_n 2, 1) := by decide +kernel
theorem dX9_addPerson_15 : decode cX9_addPerson 15 = .ok (.iconst 0, 1) := by decide +kernel
theorem dX9_addPerson_16 : decode cX9_addPerson 16 = .ok (.bipush 9, 2) := by decide +kernel
theorem dX9_addPerson_18 : decode cX9_addPerson 18 = .ok (.invokestatic 97, 3) := by decide +kernel
theorem dX9_addPerson_21 : decode cX9_addPerson 21 = .ok (.ifCond .ne 9, 3) := by decide +kernel
theorem dX9_addPerson_24 : decode cX9_addPerson 24 = .ok (.aload_n 0, 1) := by decide +kernel
theorem dX9_addPerson_25 : decode cX9_addPerson 25 = .ok (.iconst 1, 1) := by decide +kernel
theorem dX9_addPerson_26 : decode cX9_addPerson 26 = .ok (.invokevirtual 113, 3) := by decide +kernel
theorem dX9_addPerson_29 : decode cX9_addPerson 29 = .ok (.ireturn, 1) := by decide +kernel
theorem dX9_addPerson_30 : decode cX9_addPerson 30 = .ok (.aload_n 0, 1) := by decide +kernel
theorem dX9_addPerson_31 : decode cX9_addPerson 31 = .ok (.getfield 101, 3) := by decide +kernel
theorem dX9_addPerson_34 : decode cX9_addPerson 34 = .ok (.bipush 12, 2) := by decide +kernel
theorem dX9_addPerson_36 : decode cX9_addPerson 36 = .ok (.if_icmp .ne 9, 3) := by decide +kernel
theorem dX9_addPerson_39 : decode cX9_addPerson 39 = .ok (.aload_n 0, 1) := by decide +kernel
end
section
theorem dX9_addPerson_40 : decode cX9_addPerson 40 = .ok (.iconst 2, 1) := by decide +kernel
theorem dX9_addPerson_41 : decode cX9_addPerson 41 = .ok (.invokevirtual 113, 3) := by decide +kernel
theorem dX9_addPerson_44 : decode cX9_addPerson 44 = .ok (.ireturn, 1) := by decide +kernel
theorem dX9_addPerson_45 : decode cX9_addPerson 45 = .ok (.aload_n 0, 1) := by decide +kernel
theorem dX9_addPerson_46 : decode cX9_addPerson 46 = .ok (.getfield 23, 3) := by decide +kernel
theorem dX9_addPerson_49 : decode cX9_addPerson 49 = .ok (.aload_n 0, 1) := by decide +kernel
theorem dX9_addPerson_50 : decode cX9_addPerson 50 = .ok (.getfield 101, 3) := by decide +kernel
theorem dX9_addPerson_53 : decode cX9_addPerson 53 = .ok (.iload_n 1, 1) := by decide +kernel
theorem dX9_addPerson_54 : decode cX9_addPerson 54 = .ok (.iastore, 1) := by decide +kernel
theorem dX9_addPerson_55 : decode cX9_addPerson 55 = .ok (.aload_n 0, 1) := by decide +kernel
theorem dX9_addPerson_56 : decode cX9_addPerson 56 = .ok (.getfield 75, 3) := by decide +kernel
theorem dX9_addPerson_59 : decode cX9_addPerson 59 = .ok (.getfield 173, 3) := by decide +kernel
theorem dX9_addPerson_62 : decode cX9_addPerson 62 = .ok (.aload_n 0, 1) := by decide +kernel
theorem dX9_addPerson_63 : decode cX9_addPerson 63 = .ok (.getfield 101, 3) := by decide +kernel
theorem dX9_addPerson_66 : decode cX9_addPerson 66 = .ok (.iload_n 2, 1) := by decide +kernel
theorem dX9_addPerson_67 : decode cX9_addPerson 67 = .ok (.iastore, 1) := by decide +kernel
theorem dX9_addPerson_68 : decode cX9_addPerson 68 = .ok (.aload_n 0, 1) := by decide +kernel
theorem dX9_addPerson_69 : decode cX9_addPerson 69 = .ok (.dup, 1) := by decide +kernel
theorem dX9_addPerson_70 : decode cX9_addPerson 70 = .ok (.getfield 101, 3) := by decide +kernel
theorem dX9_addPerson_73 : decode cX9_addPerson 73 = .ok (.iconst 1, 1) := by decide +kernel
theorem dX9_addPerson_74 : decode cX9_addPerson 74 = .ok (.iadd, 1) := by decide +kernel
theorem dX9_addPerson_75 : decode cX9_addPerson 75 = .ok (.putfield 101, 3) := by decide +kernel
theorem dX9_addPerson_78 : decode cX9_addPerson 78 = .ok (.aload_n 0, 1) := by decide +kernel
theorem dX9_addPerson_79 : decode cX9_addPerson 79 = .ok (.getfield 101, 3) := by decide +kernel
theorem dX9_addPerson_82 : decode cX9_addPerson 82 = .ok (.iconst 1, 1) := by decide +kernel
theorem dX9_addPerson_83 : decode cX9_addPerson 83 = .ok (.isub, 1) := by decide +kernel
theorem dX9_addPerson_84 : decode cX9_addPerson 84 = .ok (.ireturn, 1) := by decide +kernel
theorem dX9_attach_0 : decode cX9_attach 0 = .ok (.aload_n 0, 1) := by decide +kernel
theorem dX9_attach_1 : decode cX9_attach 1 = .ok (.iconst 0, 1) := by decide +kernel
theorem dX9_attach_2 : decode cX9_attach 2 = .ok (.putfield 91, 3) := by decide +kernel
theorem dX9_attach_5 : decode cX9_attach 5 = .ok (.aload_n 0, 1) := by decide +kernel
theorem dX9_attach_6 : decode cX9_attach 6 = .ok (.iload_n 1, 1) := by decide +kernel
theorem dX9_attach_7 : decode cX9_attach 7 = .ok (.invokevirtual 176, 3) := by decide +kernel
theorem dX9_attach_10 : decode cX9_attach 10 = .ok (.ifCond .eq 11, 3) := by decide +kernel
theorem dX9_attach_13 : decode cX9_attach 13 = .ok (.aload_n 0, 1) := by decide +kernel
theorem dX9_attach_14 : decode cX9_attach 14 = .ok (.iload_n 2, 1) := by decide +kernel
theorem dX9_attach_15 : decode cX9_attach 15 = .ok (.invokevirtual 147, 3) := by decide +kernel
theorem dX9_attach_18 : decode cX9_attach 18 = .ok (.ifCond .ne 17, 3) := by decide +kernel
theorem dX9_attach_21 : decode cX9_attach 21 = .ok (.aload_n 0, 1) := by decide +kernel
theorem dX9_attach_22 : decode cX9_attach 22 = .ok (.iconst 1, 1) := by decide +kernel
theorem dX9_attach_23 : decode cX9_attach 23 = .ok (.invokevirtual 113, 3) := by decide +kernel
theorem dX9_attach_26 : decode cX9_attach 26 = .ok (.ifCond .le 7, 3) := by decide +kernel
theorem dX9_attach_29 : decode cX9_attach 29 = .ok (.iconst 1, 1) := by decide +kernel
theorem dX9_attach_30 : decode cX9_attach 30 = .ok (.goto 4, 3) := by decide +kernel
theorem dX9_attach_33 : decode cX9_attach 33 = .ok (.iconst 0, 1) := by decide +kernel
theorem dX9_attach_34 : decode cX9_attach 34 = .ok (.ireturn, 1) := by decide +kernel
theorem dX9_attach_35 : decode cX9_attach 35 = .ok (.aload_n 0, 1) := by decide +kernel
theorem dX9_attach_36 : decode cX9_attach 36 = .ok (.getfield 26, 3) := by decide +kernel
theorem dX9_attach_39 : decode cX9_attach 39 = .ok (.iload_n 1, 1) := by decide +kernel
theorem dX9_attach_40 : decode cX9_attach 40 = .ok (.dup2, 1) := by decide +kernel
theorem dX9_attach_41 : decode cX9_attach 41 = .ok (.iaload, 1) := by decide +kernel
theorem dX9_attach_42 : decode cX9_attach 42 = .ok (.iconst 1, 1) := by decide +kernel
theorem dX9_attach_43 : decode cX9_attach 43 = .ok (.iload_n 2, 1) := by decide +kernel
theorem dX9_attach_44 : decode cX9_attach 44 = .ok (.ishl, 1) := by decide +kernel
theorem dX9_attach_45 : decode cX9_attach 45 = .ok (.ixor, 1) := by decide +kernel
theorem dX9_attach_46 : decode cX9_attach 46 = .ok (.iastore, 1) := by decide +kernel
theorem dX9_attach_47 : decode cX9_attach 47 = .ok (.aload_n 0, 1) := by decide +kernel
theorem dX9_attach_48 : decode cX9_attach 48 = .ok (.getfield 26, 3) := by decide +kernel
theorem dX9_attach_51 : decode cX9_attach 51 = .ok (.iload_n 1, 1) := by decide +kernel
theorem dX9_attach_52 : decode cX9_attach 52 = .ok (.iaload, 1) := by decide +kernel
theorem dX9_attach_53 : decode cX9_attach 53 = .ok (.iload_n 2, 1) := by decide +kernel
theorem dX9_attach_54 : decode cX9_attach 54 = .ok (.ishr, 1) := by decide +kernel
theorem dX9_attach_55 : decode cX9_attach 55 = .ok (.iconst 1, 1) := by decide +kernel
theorem dX9_attach_56 : decode cX9_attach 56 = .ok (.iand, 1) := by decide +kernel
theorem dX9_attach_57 : decode cX9_attach 57 = .ok (.iconst 1, 1) := by decide +kernel
theorem dX9_attach_58 : decode cX9_attach 58 = .ok (.if_icmp .ne 7, 3) := by decide +kernel
theorem dX9_attach_61 : decode cX9_attach 61 = .ok (.iconst 1, 1) := by decide +kernel
theorem dX9_attach_62 : decode cX9_attach 62 = .ok (.goto 4, 3) := by decide +kernel
theorem dX9_attach_65 : decode cX9_attach 65 = .ok (.iconst 0, 1) := by decide +kernel
theorem dX9_attach_66 : decode cX9_attach 66 = .ok (.ireturn, 1) := by decide +kernel
theorem dX9_personTold_0 : decode cX9_personTold 0 = .ok (.iconst 0, 1) := by decide +kernel
theorem dX9_personTold_1 : decode cX9_personTold 1 = .ok (.istore_n 3, 1) := by decide +kernel
theorem dX9_personTold_2 : decode cX9_personTold 2 = .ok (.iconst 0, 1) := by decide +kernel
theorem dX9_personTold_3 : decode cX9_personTold 3 = .ok (.istore 4, 2) := by decide +kernel
theorem dX9_personTold_5 : decode cX9_personTold 5 = .ok (.iconst 0, 1) := by decide +kernel
theorem dX9_personTold_6 : decode cX9_personTold 6 = .ok (.istore 5, 2) := by decide +kernel
theorem dX9_personTold_8 : decode cX9_personTold 8 = .ok (.iconst 0, 1) := by decide +kernel
theorem dX9_personTold_9 : decode cX9_personTold 9 = .ok (.istore 6, 2) := by decide +kernel
theorem dX9_personTold_11 : decode cX9_personTold 11 = .ok (.iconst 0, 1) := by decide +kernel
theorem dX9_personTold_12 : decode cX9_personTold 12 = .ok (.istore 7, 2) := by decide +kernel
theorem dX9_personTold_14 : decode cX9_personTold 14 = .ok (.iload 7, 2) := by decide +kernel
theorem dX9_personTold_16 : decode cX9_personTold 16 = .ok (.aload_n 0, 1) := by decide +kernel
theorem dX9_personTold_17 : decode cX9_personTold 17 = .ok (.getfield 94, 3) := by decide +kernel
theorem dX9_personTold_20 : decode cX9_personTold 20 = .ok (.if_icmp .ge 33, 3) := by decide +kernel
theorem dX9_personTold_23 : decode cX9_personTold 23 = .ok (.iload_n 3, 1) := by decide +kernel
theorem dX9_personTold_24 : decode cX9_personTold 24 = .ok (.aload_n 0, 1) := by decide +kernel
theorem dX9_personTold_25 : decode cX9_personTold 25 = .ok (.getfield 75, 3) := by decide +kernel
theorem dX9_personTold_28 : decode cX9_personTold 28 = .ok (.iload_n 1, 1) := by decide +kernel
theorem dX9_personTold_29 : decode cX9_personTold 29 = .ok (.iload 7, 2) := by decide +kernel
theorem dX9_personTold_31 : decode cX9_personTold 31 = .ok (.invokevirtual 179, 3) := by decide +kernel
theorem dX9_personTold_34 : decode cX9_personTold 34 = .ok (.ifCond .eq 10, 3) := by decide +kernel
theorem dX9_personTold_37 : decode cX9_personTold 37 = .ok (.iconst 1, 1) := by decide +kernel
theorem dX9_personTold_38 : decode cX9_personTold 38 = .ok (.iload 7, 2) := by decide +kernel
theorem dX9_personTold_40 : decode cX9_personTold 40 = .ok (.ishl, 1) := by decide +kernel
theorem dX9_personTold_41 : decode cX9_personTold 41 = .ok (.goto 4, 3) := by decide +kernel
theorem dX9_personTold_44 : decode cX9_personTold 44 = .ok (.iconst 0, 1) := by decide +kernel
theorem dX9_personTold_45 : decode cX9_personTold 45 = .ok (.ior, 1) := by decide +kernel
theorem dX9_personTold_46 : decode cX9_personTold 46 = .ok (.istore_n 3, 1) := by decide +kernel
theorem dX9_personTold_47 : decode cX9_personTold 47 = .ok (.iinc 7 1, 3) := by decide +kernel
theorem dX9_personTold_50 : decode cX9_personTold 50 = .ok (.goto (-36), 3) := by decide +kernel
theorem dX9_personTold_53 : decode cX9_personTold 53 = .ok (.iconst 0, 1) := by decide +kernel
theorem dX9_personTold_54 : decode cX9_personTold 54 = .ok (.istore 7, 2) := by decide +kernel
theorem dX9_personTold_56 : decode cX9_personTold 56 = .ok (.iload 7, 2) := by decide +kernel
theorem dX9_personTold_58 : decode cX9_personTold 58 = .ok (.aload_n 0, 1) := by decide +kernel
theorem dX9_personTold_59 : decode cX9_personTold 59 = .ok (.getfield 104, 3) := by decide +kernel
theorem dX9_personTold_62 : decode cX9_personTold 62 = .ok (.if_icmp .ge 33, 3) := by decide +kernel
theorem dX9_personTold_65 : decode cX9_personTold 65 = .ok (.iload 4, 2) := by decide +kernel
theorem dX9_personTold_67 : decode cX9_personTold 67 = .ok (.aload_n 0, 1) := by decide +kernel
theorem dX9_personTold_68 : decode cX9_personTold 68 = .ok (.getfield 75, 3) := by decide +kernel
theorem dX9_personTold_71 : decode cX9_personTold 71 = .ok (.getfield 158, 3) := by decide +kernel
theorem dX9_personTold_74 : decode cX9_personTold 74 = .ok (.iload 7, 2) := by decide +kernel
theorem dX9_personTold_76 : decode cX9_personTold 76 = .ok (.iaload, 1) := by decide +kernel
theorem dX9_personTold_77 : decode cX9_personTold 77 = .ok (.iload_n 1, 1) := by decide +kernel
theorem dX9_personTold_78 : decode cX9_personTold 78 = .ok (.if_icmp .ne 7, 3) := by decide +kernel
theorem dX9_personTold_81 : decode cX9_personTold 81 = .ok (.iconst 1, 1) := by decide +kernel
theorem dX9_personTold_82 : decode cX9_personTold 82 = .ok (.goto 4, 3) := by decide +kernel
theorem dX9_personTold_85 : decode cX9_personTold 85 = .ok (.iconst 0, 1) := by decide +kernel
theorem dX9_personTold_86 : decode cX9_personTold 86 = .ok (.iadd, 1) := by decide +kernel
theorem dX9_personTold_87 : decode cX9_personTold 87 = .ok (.istore 4, 2) := by decide +kernel
theorem dX9_personTold_89 : decode cX9_personTold 89 = .ok (.iinc 7 1, 3) := by decide +kernel
theorem dX9_personTold_92 : decode cX9_personTold 92 = .ok (.goto (-36), 3) := by decide +kernel
theorem dX9_personTold_95 : decode cX9_personTold 95 = .ok (.iconst 0, 1) := by decide +kernel
theorem dX9_personTold_96 : decode cX9_personTold 96 = .ok (.istore 7, 2) := by decide +kernel
theorem dX9_personTold_98 : decode cX9_personTold 98 = .ok (.iload 7, 2) := by decide +kernel
theorem dX9_personTold_100 : decode cX9_personTold 100 = .ok (.aload_n 0, 1) := by decide +kernel
theorem dX9_personTold_101 : decode cX9_personTold 101 = .ok (.getfield 107, 3) := by decide +kernel
theorem dX9_personTold_104 : decode cX9_personTold 104 = .ok (.if_icmp .ge 30, 3) := by decide +kernel
theorem dX9_personTold_107 : decode cX9_personTold 107 = .ok (.iload 5, 2) := by decide +kernel
theorem dX9_personTold_109 : decode cX9_personTold 109 = .ok (.aload_n 0, 1) := by decide +kernel
theorem dX9_personTold_110 : decode cX9_personTold 110 = .ok (.getfield 49, 3) := by decide +kernel
theorem dX9_personTold_113 : decode cX9_personTold 113 = .ok (.iload 7, 2) := by decide +kernel
theorem dX9_personTold_115 : decode cX9_personTold 115 = .ok (.iaload, 1) := by decide +kernel
theorem dX9_personTold_116 : decode cX9_personTold 116 = .ok (.iload_n 1, 1) := by decide +kernel
theorem dX9_personTold_117 : decode cX9_personTold 117 = .ok (.if_icmp .ne 7, 3) := by decide +kernel
theorem dX9_personTold_120 : decode cX9_personTold 120 = .ok (.iconst 1, 1) := by decide +kernel
theorem dX9_personTold_121 : decode cX9_personTold 121 = .ok (.goto 4, 3) := by decide +kernel
theorem dX9_personTold_124 : decode cX9_personTold 124 = .ok (.iconst 0, 1) := by decide +kernel
theorem dX9_personTold_125 : decode cX9_personTold 125 = .ok (.iadd, 1) := by decide +kernel
theorem dX9_personTold_126 : decode cX9_personTold 126 = .ok (.istore 5, 2) := by decide +kernel
theorem dX9_personTold_128 : decode cX9_personTold 128 = .ok (.iinc 7 1, 3) := by decide +kernel
theorem dX9_personTold_131 : decode cX9_personTold 131 = .ok (.goto (-33), 3) := by decide +kernel
theorem dX9_personTold_134 : decode cX9_personTold 134 = .ok (.iconst 0, 1) := by decide +kernel
theorem dX9_personTold_135 : decode cX9_personTold 135 = .ok (.istore 7, 2) := by decide +kernel
theorem dX9_personTold_137 : decode cX9_personTold 137 = .ok (.iload 7, 2) := by decide +kernel
theorem dX9_personTold_139 : decode cX9_personTold 139 = .ok (.aload_n 0, 1) := by decide +kernel
theorem dX9_personTold_140 : decode cX9_personTold 140 = .ok (.getfield 182, 3) := by decide +kernel
theorem dX9_personTold_143 : decode cX9_personTold 143 = .ok (.if_icmp .ge 44, 3) := by decide +kernel
theorem dX9_personTold_146 : decode cX9_personTold 146 = .ok (.iload 6, 2) := by decide +kernel
theorem dX9_personTold_148 : decode cX9_personTold 148 = .ok (.aload_n 0, 1) := by decide +kernel
theorem dX9_personTold_149 : decode cX9_personTold 149 = .ok (.getfield 64, 3) := by decide +kernel
theorem dX9_personTold_152 : decode cX9_personTold 152 = .ok (.iload 7, 2) := by decide +kernel
theorem dX9_personTold_154 : decode cX9_personTold 154 = .ok (.iaload, 1) := by decide +kernel
theorem dX9_personTold_155 : decode cX9_personTold 155 = .ok (.iload_n 1, 1) := by decide +kernel
theorem dX9_personTold_156 : decode cX9_personTold 156 = .ok (.if_icmp .ne 21, 3) := by decide +kernel
theorem dX9_personTold_159 : decode cX9_personTold 159 = .ok (.aload_n 0, 1) := by decide +kernel
theorem dX9_personTold_160 : decode cX9_personTold 160 = .ok (.getfield 75, 3) := by decide +kernel
theorem dX9_personTold_163 : decode cX9_personTold 163 = .ok (.getfield 185, 3) := by decide +kernel
theorem dX9_personTold_166 : decode cX9_personTold 166 = .ok (.iload 7, 2) := by decide +kernel
theorem dX9_personTold_168 : decode cX9_personTold 168 = .ok (.iaload, 1) := by decide +kernel
theorem dX9_personTold_169 : decode cX9_personTold 169 = .ok (.iconst 1, 1) := by decide +kernel
theorem dX9_personTold_170 : decode cX9_personTold 170 = .ok (.if_icmp .ne 7, 3) := by decide +kernel
theorem dX9_personTold_173 : decode cX9_personTold 173 = .ok (.iconst 1, 1) := by decide +kernel
theorem dX9_personTold_174 : decode cX9_personTold 174 = .ok (.goto 4, 3) := by decide +kernel
theorem dX9_personTold_177 : decode cX9_personTold 177 = .ok (.iconst 0, 1) := by decide +kernel
theorem dX9_personTold_178 : decode cX9_personTold 178 = .ok (.iadd, 1) := by decide +kernel
theorem dX9_personTold_179 : decode cX9_personTold 179 = .ok (.istore 6, 2) := by decide +kernel
theorem dX9_personTold_181 : decode cX9_personTold 181 = .ok (.iinc 7 1, 3) := by decide +kernel
theorem dX9_personTold_184 : decode cX9_personTold 184 = .ok (.goto (-47), 3) := by decide +kernel
theorem dX9_personTold_187 : decode cX9_personTold 187 = .ok (.bipush 8, 2) := by decide +kernel
theorem dX9_personTold_189 : decode cX9_personTold 189 = .ok (.newarray .int, 2) := by decide +kernel
theorem dX9_personTold_191 : decode cX9_personTold 191 = .ok (.dup, 1) := by decide +kernel
theorem dX9_personTold_192 : decode cX9_personTold 192 = .ok (.iconst 0, 1) := by decide +kernel
theorem dX9_personTold_193 : decode cX9_personTold 193 = .ok (.aload_n 0, 1) := by decide +kernel
theorem dX9_personTold_194 : decode cX9_personTold 194 = .ok (.getfield 23, 3) := by decide +kernel
theorem dX9_personTold_197 : decode cX9_personTold 197 = .ok (.iload_n 1, 1) := by decide +kernel
theorem dX9_personTold_198 : decode cX9_personTold 198 = .ok (.iaload, 1) := by decide +kernel
theorem dX9_personTold_199 : decode cX9_personTold 199 = .ok (.iastore, 1) := by decide +kernel
theorem dX9_personTold_200 : decode cX9_personTold 200 = .ok (.dup, 1) := by decide +kernel
theorem dX9_personTold_201 : decode cX9_personTold 201 = .ok (.iconst 1, 1) := by decide +kernel
theorem dX9_personTold_202 : decode cX9_personTold 202 = .ok (.aload_n 0, 1) := by decide +kernel
theorem dX9_personTold_203 : decode cX9_personTold 203 = .ok (.getfield 75, 3) := by decide +kernel
theorem dX9_personTold_206 : decode cX9_personTold 206 = .ok (.getfield 173, 3) := by decide +kernel
theorem dX9_personTold_209 : decode cX9_personTold 209 = .ok (.iload_n 1, 1) := by decide +kernel
theorem dX9_personTold_210 : decode cX9_personTold 210 = .ok (.iaload, 1) := by decide +kernel
theorem dX9_personTold_211 : decode cX9_personTold 211 = .ok (.iastore, 1) := by decide +kernel
theorem dX9_personTold_212 : decode cX9_personTold 212 = .ok (.dup, 1) := by decide +kernel
theorem dX9_personTold_213 : decode cX9_personTold 213 = .ok (.iconst 2, 1) := by decide +kernel
theorem dX9_personTold_214 : decode cX9_personTold 214 = .ok (.aload_n 0, 1) := by decide +kernel
theorem dX9_personTold_215 : decode cX9_personTold 215 = .ok (.getfield 26, 3) := by decide +kernel
theorem dX9_personTold_218 : decode cX9_personTold 218 = .ok (.iload_n 1, 1) := by decide +kernel
theorem dX9_personTold_219 : decode cX9_personTold 219 = .ok (.iaload, 1) := by decide +kernel
theorem dX9_personTold_220 : decode cX9_personTold 220 = .ok (.iastore, 1) := by decide +kernel
theorem dX9_personTold_221 : decode cX9_personTold 221 = .ok (.dup, 1) := by decide +kernel
theorem dX9_personTold_222 : decode cX9_personTold 222 = .ok (.iconst 3, 1) := by decide +kernel
theorem dX9_personTold_223 : decode cX9_personTold 223 = .ok (.iload_n 3, 1) := by decide +kernel
theorem dX9_personTold_224 : decode cX9_personTold 224 = .ok (.iastore, 1) := by decide +kernel
theorem dX9_personTold_225 : decode cX9_personTold 225 = .ok (.dup, 1) := by decide +kernel
theorem dX9_personTold_226 : decode cX9_personTold 226 = .ok (.iconst 4, 1) := by decide +kernel
theorem dX9_personTold_227 : decode cX9_personTold 227 = .ok (.aload_n 0, 1) := by decide +kernel
theorem dX9_personTold_228 : decode cX9_personTold 228 = .ok (.getfield 75, 3) := by decide +kernel
theorem dX9_personTold_231 : decode cX9_personTold 231 = .ok (.getfield 188, 3) := by decide +kernel
theorem dX9_personTold_234 : decode cX9_personTold 234 = .ok (.iload_n 1, 1) := by decide +kernel
theorem dX9_personTold_235 : decode cX9_personTold 235 = .ok (.iaload, 1) := by decide +kernel
theorem dX9_personTold_236 : decode cX9_personTold 236 = .ok (.iastore, 1) := by decide +kernel
theorem dX9_personTold_237 : decode cX9_personTold 237 = .ok (.dup, 1) := by decide +kernel
theorem dX9_personTold_238 : decode cX9_personTold 238 = .ok (.iconst 5, 1) := by decide +kernel
theorem dX9_personTold_239 : decode cX9_personTold 239 = .ok (.iload 4, 2) := by decide +kernel
theorem dX9_personTold_241 : decode cX9_personTold 241 = .ok (.iastore, 1) := by decide +kernel
theorem dX9_personTold_242 : decode cX9_personTold 242 = .ok (.dup, 1) := by decide +kernel
theorem dX9_personTold_243 : decode cX9_personTold 243 = .ok (.bipush 6, 2) := by decide +kernel
theorem dX9_personTold_245 : decode cX9_personTold 245 = .ok (.iload 5, 2) := by decide +kernel
theorem dX9_personTold_247 : decode cX9_personTold 247 = .ok (.iastore, 1) := by decide +kernel
theorem dX9_personTold_248 : decode cX9_personTold 248 = .ok (.dup, 1) := by decide +kernel
theorem dX9_personTold_249 : decode cX9_personTold 249 = .ok (.bipush 7, 2) := by decide +kernel
theorem dX9_personTold_251 : decode cX9_personTold 251 = .ok (.iload 6, 2) := by decide +kernel
theorem dX9_personTold_253 : decode cX9_personTold 253 = .ok (.iastore, 1) := by decide +kernel
theorem dX9_personTold_254 : decode cX9_personTold 254 = .ok (.astore 7, 2) := by decide +kernel
theorem dX9_personTold_256 : decode cX9_personTold 256 = .ok (.aload 7, 2) := by decide +kernel
theorem dX9_personTold_258 : decode cX9_personTold 258 = .ok (.iload_n 2, 1) := by decide +kernel
theorem dX9_personTold_259 : decode cX9_personTold 259 = .ok (.iaload, 1) := by decide +kernel
theorem dX9_personTold_260 : decode cX9_personTold 260 = .ok (.ireturn, 1) := by decide +kernel
theorem dX9_person_0 : decode cX9_person 0 = .ok (.aload_n 0, 1) := by decide +kernel
theorem dX9_person_1 : decode cX9_person 1 = .ok (.iconst 0, 1) := by decide +kernel
theorem dX9_person_2 : decode cX9_person 2 = .ok (.putfield 91, 3) := by decide +kernel
theorem dX9_person_5 : decode cX9_person 5 = .ok (.aload_n 0, 1) := by decide +kernel
theorem dX9_person_6 : decode cX9_person 6 = .ok (.iload_n 1, 1) := by decide +kernel
theorem dX9_person_7 : decode cX9_person 7 = .ok (.invokevirtual 176, 3) := by decide +kernel
theorem dX9_person_10 : decode cX9_person 10 = .ok (.ifCond .eq 22, 3) := by decide +kernel
theorem dX9_person_13 : decode cX9_person 13 = .ok (.iload_n 2, 1) := by decide +kernel
theorem dX9_person_14 : decode cX9_person 14 = .ok (.iconst 0, 1) := by decide +kernel
theorem dX9_person_15 : decode cX9_person 15 = .ok (.bipush 7, 2) := by decide +kernel
theorem dX9_person_17 : decode cX9_person 17 = .ok (.invokestatic 97, 3) := by decide +kernel
theorem dX9_person_20 : decode cX9_person 20 = .ok (.ifCond .eq 12, 3) := by decide +kernel
theorem dX9_person_23 : decode cX9_person 23 = .ok (.aload_n 0, 1) := by decide +kernel
theorem dX9_person_24 : decode cX9_person 24 = .ok (.iload_n 1, 1) := by decide +kernel
theorem dX9_person_25 : decode cX9_person 25 = .ok (.iload_n 2, 1) := by decide +kernel
theorem dX9_person_26 : decode cX9_person 26 = .ok (.invokevirtual 191, 3) := by decide +kernel
theorem dX9_person_29 : decode cX9_person 29 = .ok (.goto 8, 3) := by decide +kernel
theorem dX9_person_32 : decode cX9_person 32 = .ok (.aload_n 0, 1) := by decide +kernel
theorem dX9_person_33 : decode cX9_person 33 = .ok (.iconst 1, 1) := by decide +kernel
theorem dX9_person_34 : decode cX9_person 34 = .ok (.invokevirtual 113, 3) := by decide +kernel
theorem dX9_person_37 : decode cX9_person 37 = .ok (.ireturn, 1) := by decide +kernel
theorem dX9_caseTold_0 : decode cX9_caseTold 0 = .ok (.iconst 0, 1) := by decide +kernel
theorem dX9_caseTold_1 : decode cX9_caseTold 1 = .ok (.istore_n 3, 1) := by decide +kernel
theorem dX9_caseTold_2 : decode cX9_caseTold 2 = .ok (.iconst 0, 1) := by decide +kernel
theorem dX9_caseTold_3 : decode cX9_caseTold 3 = .ok (.istore 4, 2) := by decide +kernel
theorem dX9_caseTold_5 : decode cX9_caseTold 5 = .ok (.iconst 0, 1) := by decide +kernel
theorem dX9_caseTold_6 : decode cX9_caseTold 6 = .ok (.istore 5, 2) := by decide +kernel
theorem dX9_caseTold_8 : decode cX9_caseTold 8 = .ok (.iconst 0, 1) := by decide +kernel
theorem dX9_caseTold_9 : decode cX9_caseTold 9 = .ok (.istore 6, 2) := by decide +kernel
theorem dX9_caseTold_11 : decode cX9_caseTold 11 = .ok (.iconst 0, 1) := by decide +kernel
theorem dX9_caseTold_12 : decode cX9_caseTold 12 = .ok (.istore 7, 2) := by decide +kernel
theorem dX9_caseTold_14 : decode cX9_caseTold 14 = .ok (.iload 7, 2) := by decide +kernel
theorem dX9_caseTold_16 : decode cX9_caseTold 16 = .ok (.aload_n 0, 1) := by decide +kernel
theorem dX9_caseTold_17 : decode cX9_caseTold 17 = .ok (.getfield 104, 3) := by decide +kernel
theorem dX9_caseTold_20 : decode cX9_caseTold 20 = .ok (.if_icmp .ge 28, 3) := by decide +kernel
theorem dX9_caseTold_23 : decode cX9_caseTold 23 = .ok (.iload_n 3, 1) := by decide +kernel
theorem dX9_caseTold_24 : decode cX9_caseTold 24 = .ok (.aload_n 0, 1) := by decide +kernel
theorem dX9_caseTold_25 : decode cX9_caseTold 25 = .ok (.getfield 29, 3) := by decide +kernel
theorem dX9_caseTold_28 : decode cX9_caseTold 28 = .ok (.iload 7, 2) := by decide +kernel
theorem dX9_caseTold_30 : decode cX9_caseTold 30 = .ok (.iaload, 1) := by decide +kernel
theorem dX9_caseTold_31 : decode cX9_caseTold 31 = .ok (.iload_n 1, 1) := by decide +kernel
theorem dX9_caseTold_32 : decode cX9_caseTold 32 = .ok (.if_icmp .ne 7, 3) := by decide +kernel
theorem dX9_caseTold_35 : decode cX9_caseTold 35 = .ok (.iconst 1, 1) := by decide +kernel
theorem dX9_caseTold_36 : decode cX9_caseTold 36 = .ok (.goto 4, 3) := by decide +kernel
theorem dX9_caseTold_39 : decode cX9_caseTold 39 = .ok (.iconst 0, 1) := by decide +kernel
theorem dX9_caseTold_40 : decode cX9_caseTold 40 = .ok (.iadd, 1) := by decide +kernel
theorem dX9_caseTold_41 : decode cX9_caseTold 41 = .ok (.istore_n 3, 1) := by decide +kernel
theorem dX9_caseTold_42 : decode cX9_caseTold 42 = .ok (.iinc 7 1, 3) := by decide +kernel
theorem dX9_caseTold_45 : decode cX9_caseTold 45 = .ok (.goto (-31), 3) := by decide +kernel
theorem dX9_caseTold_48 : decode cX9_caseTold 48 = .ok (.iconst 0, 1) := by decide +kernel
theorem dX9_caseTold_49 : decode cX9_caseTold 49 = .ok (.istore 7, 2) := by decide +kernel
theorem dX9_caseTold_51 : decode cX9_caseTold 51 = .ok (.iload 7, 2) := by decide +kernel
theorem dX9_caseTold_53 : decode cX9_caseTold 53 = .ok (.aload_n 0, 1) := by decide +kernel
theorem dX9_caseTold_54 : decode cX9_caseTold 54 = .ok (.getfield 107, 3) := by decide +kernel
theorem dX9_caseTold_57 : decode cX9_caseTold 57 = .ok (.if_icmp .ge 60, 3) := by decide +kernel
theorem dX9_caseTold_60 : decode cX9_caseTold 60 = .ok (.iload 4, 2) := by decide +kernel
theorem dX9_caseTold_62 : decode cX9_caseTold 62 = .ok (.aload_n 0, 1) := by decide +kernel
theorem dX9_caseTold_63 : decode cX9_caseTold 63 = .ok (.getfield 46, 3) := by decide +kernel
theorem dX9_caseTold_66 : decode cX9_caseTold 66 = .ok (.iload 7, 2) := by decide +kernel
theorem dX9_caseTold_68 : decode cX9_caseTold 68 = .ok (.iaload, 1) := by decide +kernel
theorem dX9_caseTold_69 : decode cX9_caseTold 69 = .ok (.iload_n 1, 1) := by decide +kernel
theorem dX9_caseTold_70 : decode cX9_caseTold 70 = .ok (.if_icmp .ne 7, 3) := by decide +kernel
theorem dX9_caseTold_73 : decode cX9_caseTold 73 = .ok (.iconst 1, 1) := by decide +kernel
theorem dX9_caseTold_74 : decode cX9_caseTold 74 = .ok (.goto 4, 3) := by decide +kernel
theorem dX9_caseTold_77 : decode cX9_caseTold 77 = .ok (.iconst 0, 1) := by decide +kernel
theorem dX9_caseTold_78 : decode cX9_caseTold 78 = .ok (.iadd, 1) := by decide +kernel
theorem dX9_caseTold_79 : decode cX9_caseTold 79 = .ok (.istore 4, 2) := by decide +kernel
theorem dX9_caseTold_81 : decode cX9_caseTold 81 = .ok (.iload 5, 2) := by decide +kernel
theorem dX9_caseTold_83 : decode cX9_caseTold 83 = .ok (.aload_n 0, 1) := by decide +kernel
theorem dX9_caseTold_84 : decode cX9_caseTold 84 = .ok (.getfield 46, 3) := by decide +kernel
theorem dX9_caseTold_87 : decode cX9_caseTold 87 = .ok (.iload 7, 2) := by decide +kernel
theorem dX9_caseTold_89 : decode cX9_caseTold 89 = .ok (.iaload, 1) := by decide +kernel
theorem dX9_caseTold_90 : decode cX9_caseTold 90 = .ok (.iload_n 1, 1) := by decide +kernel
theorem dX9_caseTold_91 : decode cX9_caseTold 91 = .ok (.if_icmp .ne 16, 3) := by decide +kernel
theorem dX9_caseTold_94 : decode cX9_caseTold 94 = .ok (.aload_n 0, 1) := by decide +kernel
theorem dX9_caseTold_95 : decode cX9_caseTold 95 = .ok (.iload 7, 2) := by decide +kernel
theorem dX9_caseTold_97 : decode cX9_caseTold 97 = .ok (.invokevirtual 194, 3) := by decide +kernel
theorem dX9_caseTold_100 : decode cX9_caseTold 100 = .ok (.ifCond .eq 7, 3) := by decide +kernel
theorem dX9_caseTold_103 : decode cX9_caseTold 103 = .ok (.iconst 1, 1) := by decide +kernel
theorem dX9_caseTold_104 : decode cX9_caseTold 104 = .ok (.goto 4, 3) := by decide +kernel
theorem dX9_caseTold_107 : decode cX9_caseTold 107 = .ok (.iconst 0, 1) := by decide +kernel
theorem dX9_caseTold_108 : decode cX9_caseTold 108 = .ok (.iadd, 1) := by decide +kernel
theorem dX9_caseTold_109 : decode cX9_caseTold 109 = .ok (.istore 5, 2) := by decide +kernel
theorem dX9_caseTold_111 : decode cX9_caseTold 111 = .ok (.iinc 7 1, 3) := by decide +kernel
theorem dX9_caseTold_114 : decode cX9_caseTold 114 = .ok (.goto (-63), 3) := by decide +kernel
theorem dX9_caseTold_117 : decode cX9_caseTold 117 = .ok (.iconst 0, 1) := by decide +kernel
theorem dX9_caseTold_118 : decode cX9_caseTold 118 = .ok (.istore 7, 2) := by decide +kernel
theorem dX9_caseTold_120 : decode cX9_caseTold 120 = .ok (.iload 7, 2) := by decide +kernel
theorem dX9_caseTold_122 : decode cX9_caseTold 122 = .ok (.aload_n 0, 1) := by decide +kernel
theorem dX9_caseTold_123 : decode cX9_caseTold 123 = .ok (.getfield 101, 3) := by decide +kernel
theorem dX9_caseTold_126 : decode cX9_caseTold 126 = .ok (.if_icmp .ge 32, 3) := by decide +kernel
theorem dX9_caseTold_129 : decode cX9_caseTold 129 = .ok (.iload 6, 2) := by decide +kernel
theorem dX9_caseTold_131 : decode cX9_caseTold 131 = .ok (.aload_n 0, 1) := by decide +kernel
theorem dX9_caseTold_132 : decode cX9_caseTold 132 = .ok (.getfield 75, 3) := by decide +kernel
theorem dX9_caseTold_135 : decode cX9_caseTold 135 = .ok (.iload 7, 2) := by decide +kernel
theorem dX9_caseTold_137 : decode cX9_caseTold 137 = .ok (.iload_n 1, 1) := by decide +kernel
theorem dX9_caseTold_138 : decode cX9_caseTold 138 = .ok (.invokevirtual 179, 3) := by decide +kernel
theorem dX9_caseTold_141 : decode cX9_caseTold 141 = .ok (.ifCond .eq 7, 3) := by decide +kernel
theorem dX9_caseTold_144 : decode cX9_caseTold 144 = .ok (.iconst 1, 1) := by decide +kernel
theorem dX9_caseTold_145 : decode cX9_caseTold 145 = .ok (.goto 4, 3) := by decide +kernel
theorem dX9_caseTold_148 : decode cX9_caseTold 148 = .ok (.iconst 0, 1) := by decide +kernel
theorem dX9_caseTold_149 : decode cX9_caseTold 149 = .ok (.iadd, 1) := by decide +kernel
theorem dX9_caseTold_150 : decode cX9_caseTold 150 = .ok (.istore 6, 2) := by decide +kernel
theorem dX9_caseTold_152 : decode cX9_caseTold 152 = .ok (.iinc 7 1, 3) := by decide +kernel
theorem dX9_caseTold_155 : decode cX9_caseTold 155 = .ok (.goto (-35), 3) := by decide +kernel
theorem dX9_caseTold_158 : decode cX9_caseTold 158 = .ok (.iconst 5, 1) := by decide +kernel
theorem dX9_caseTold_159 : decode cX9_caseTold 159 = .ok (.newarray .int, 2) := by decide +kernel
theorem dX9_caseTold_161 : decode cX9_caseTold 161 = .ok (.dup, 1) := by decide +kernel
theorem dX9_caseTold_162 : decode cX9_caseTold 162 = .ok (.iconst 0, 1) := by decide +kernel
theorem dX9_caseTold_163 : decode cX9_caseTold 163 = .ok (.aload_n 0, 1) := by decide +kernel
theorem dX9_caseTold_164 : decode cX9_caseTold 164 = .ok (.getfield 20, 3) := by decide +kernel
theorem dX9_caseTold_167 : decode cX9_caseTold 167 = .ok (.iload_n 1, 1) := by decide +kernel
theorem dX9_caseTold_168 : decode cX9_caseTold 168 = .ok (.iaload, 1) := by decide +kernel
theorem dX9_caseTold_169 : decode cX9_caseTold 169 = .ok (.iastore, 1) := by decide +kernel
theorem dX9_caseTold_170 : decode cX9_caseTold 170 = .ok (.dup, 1) := by decide +kernel
theorem dX9_caseTold_171 : decode cX9_caseTold 171 = .ok (.iconst 1, 1) := by decide +kernel
theorem dX9_caseTold_172 : decode cX9_caseTold 172 = .ok (.iload_n 3, 1) := by decide +kernel
theorem dX9_caseTold_173 : decode cX9_caseTold 173 = .ok (.iastore, 1) := by decide +kernel
theorem dX9_caseTold_174 : decode cX9_caseTold 174 = .ok (.dup, 1) := by decide +kernel
theorem dX9_caseTold_175 : decode cX9_caseTold 175 = .ok (.iconst 2, 1) := by decide +kernel
theorem dX9_caseTold_176 : decode cX9_caseTold 176 = .ok (.iload 4, 2) := by decide +kernel
theorem dX9_caseTold_178 : decode cX9_caseTold 178 = .ok (.iastore, 1) := by decide +kernel
theorem dX9_caseTold_179 : decode cX9_caseTold 179 = .ok (.dup, 1) := by decide +kernel
theorem dX9_caseTold_180 : decode cX9_caseTold 180 = .ok (.iconst 3, 1) := by decide +kernel
theorem dX9_caseTold_181 : decode cX9_caseTold 181 = .ok (.iload 5, 2) := by decide +kernel
theorem dX9_caseTold_183 : decode cX9_caseTold 183 = .ok (.iastore, 1) := by decide +kernel
theorem dX9_caseTold_184 : decode cX9_caseTold 184 = .ok (.dup, 1) := by decide +kernel
theorem dX9_caseTold_185 : decode cX9_caseTold 185 = .ok (.iconst 4, 1) := by decide +kernel
theorem dX9_caseTold_186 : decode cX9_caseTold 186 = .ok (.iload 6, 2) := by decide +kernel
theorem dX9_caseTold_188 : decode cX9_caseTold 188 = .ok (.iastore, 1) := by decide +kernel
theorem dX9_caseTold_189 : decode cX9_caseTold 189 = .ok (.astore 7, 2) := by decide +kernel
theorem dX9_caseTold_191 : decode cX9_caseTold 191 = .ok (.aload 7, 2) := by decide +kernel
theorem dX9_caseTold_193 : decode cX9_caseTold 193 = .ok (.iload_n 2, 1) := by decide +kernel
theorem dX9_caseTold_194 : decode cX9_caseTold 194 = .ok (.iaload, 1) := by decide +kernel
theorem dX9_caseTold_195 : decode cX9_caseTold 195 = .ok (.ireturn, 1) := by decide +kernel
theorem dX9_caseOf_0 : decode cX9_caseOf 0 = .ok (.aload_n 0, 1) := by decide +kernel
theorem dX9_caseOf_1 : decode cX9_caseOf 1 = .ok (.iconst 0, 1) := by decide +kernel
theorem dX9_caseOf_2 : decode cX9_caseOf 2 = .ok (.putfield 91, 3) := by decide +kernel
theorem dX9_caseOf_5 : decode cX9_caseOf 5 = .ok (.aload_n 0, 1) := by decide +kernel
theorem dX9_caseOf_6 : decode cX9_caseOf 6 = .ok (.iload_n 1, 1) := by decide +kernel
theorem dX9_caseOf_7 : decode cX9_caseOf 7 = .ok (.invokevirtual 147, 3) := by decide +kernel
theorem dX9_caseOf_10 : decode cX9_caseOf 10 = .ok (.ifCond .eq 21, 3) := by decide +kernel
theorem dX9_caseOf_13 : decode cX9_caseOf 13 = .ok (.iload_n 2, 1) := by decide +kernel
theorem dX9_caseOf_14 : decode cX9_caseOf 14 = .ok (.iconst 0, 1) := by decide +kernel
theorem dX9_caseOf_15 : decode cX9_caseOf 15 = .ok (.iconst 4, 1) := by decide +kernel
theorem dX9_caseOf_16 : decode cX9_caseOf 16 = .ok (.invokestatic 97, 3) := by decide +kernel
theorem dX9_caseOf_19 : decode cX9_caseOf 19 = .ok (.ifCond .eq 12, 3) := by decide +kernel
theorem dX9_caseOf_22 : decode cX9_caseOf 22 = .ok (.aload_n 0, 1) := by decide +kernel
theorem dX9_caseOf_23 : decode cX9_caseOf 23 = .ok (.iload_n 1, 1) := by decide +kernel
theorem dX9_caseOf_24 : decode cX9_caseOf 24 = .ok (.iload_n 2, 1) := by decide +kernel
theorem dX9_caseOf_25 : decode cX9_caseOf 25 = .ok (.invokevirtual 197, 3) := by decide +kernel
theorem dX9_caseOf_28 : decode cX9_caseOf 28 = .ok (.goto 8, 3) := by decide +kernel
theorem dX9_caseOf_31 : decode cX9_caseOf 31 = .ok (.aload_n 0, 1) := by decide +kernel
theorem dX9_caseOf_32 : decode cX9_caseOf 32 = .ok (.iconst 1, 1) := by decide +kernel
theorem dX9_caseOf_33 : decode cX9_caseOf 33 = .ok (.invokevirtual 113, 3) := by decide +kernel
theorem dX9_caseOf_36 : decode cX9_caseOf 36 = .ok (.ireturn, 1) := by decide +kernel
theorem dX9_seen_0 : decode cX9_seen 0 = .ok (.aload_n 0, 1) := by decide +kernel
theorem dX9_seen_1 : decode cX9_seen 1 = .ok (.getfield 33, 3) := by decide +kernel
theorem dX9_seen_4 : decode cX9_seen 4 = .ok (.iload_n 1, 1) := by decide +kernel
theorem dX9_seen_5 : decode cX9_seen 5 = .ok (.aaload, 1) := by decide +kernel
theorem dX9_seen_6 : decode cX9_seen 6 = .ok (.iload_n 2, 1) := by decide +kernel
theorem dX9_seen_7 : decode cX9_seen 7 = .ok (.iaload, 1) := by decide +kernel
theorem dX9_seen_8 : decode cX9_seen 8 = .ok (.istore 4, 2) := by decide +kernel
theorem dX9_seen_10 : decode cX9_seen 10 = .ok (.iload 4, 2) := by decide +kernel
theorem dX9_seen_12 : decode cX9_seen 12 = .ok (.bipush 10, 2) := by decide +kernel
theorem dX9_seen_14 : decode cX9_seen 14 = .ok (.if_icmp .ne 6, 3) := by decide +kernel
theorem dX9_seen_17 : decode cX9_seen 17 = .ok (.iload 4, 2) := by decide +kernel
theorem dX9_seen_19 : decode cX9_seen 19 = .ok (.ireturn, 1) := by decide +kernel
theorem dX9_seen_20 : decode cX9_seen 20 = .ok (.aload_n 0, 1) := by decide +kernel
theorem dX9_seen_21 : decode cX9_seen 21 = .ok (.getfield 37, 3) := by decide +kernel
theorem dX9_seen_24 : decode cX9_seen 24 = .ok (.iload_n 1, 1) := by decide +kernel
theorem dX9_seen_25 : decode cX9_seen 25 = .ok (.aaload, 1) := by decide +kernel
theorem dX9_seen_26 : decode cX9_seen 26 = .ok (.iload_n 2, 1) := by decide +kernel
theorem dX9_seen_27 : decode cX9_seen 27 = .ok (.iaload, 1) := by decide +kernel
theorem dX9_seen_28 : decode cX9_seen 28 = .ok (.iload_n 3, 1) := by decide +kernel
theorem dX9_seen_29 : decode cX9_seen 29 = .ok (.if_icmp .le 6, 3) := by decide +kernel
theorem dX9_seen_32 : decode cX9_seen 32 = .ok (.bipush 35, 2) := by decide +kernel
theorem dX9_seen_34 : decode cX9_seen 34 = .ok (.ireturn, 1) := by decide +kernel
theorem dX9_seen_35 : decode cX9_seen 35 = .ok (.aload_n 0, 1) := by decide +kernel
theorem dX9_seen_36 : decode cX9_seen 36 = .ok (.getfield 40, 3) := by decide +kernel
theorem dX9_seen_39 : decode cX9_seen 39 = .ok (.iload_n 1, 1) := by decide +kernel
theorem dX9_seen_40 : decode cX9_seen 40 = .ok (.aaload, 1) := by decide +kernel
theorem dX9_seen_41 : decode cX9_seen 41 = .ok (.iload_n 2, 1) := by decide +kernel
theorem dX9_seen_42 : decode cX9_seen 42 = .ok (.iaload, 1) := by decide +kernel
theorem dX9_seen_43 : decode cX9_seen 43 = .ok (.iconst 1, 1) := by decide +kernel
theorem dX9_seen_44 : decode cX9_seen 44 = .ok (.if_icmp .ne 12, 3) := by decide +kernel
theorem dX9_seen_47 : decode cX9_seen 47 = .ok (.iload_n 3, 1) := by decide +kernel
theorem dX9_seen_48 : decode cX9_seen 48 = .ok (.ifCond .ne 8, 3) := by decide +kernel
theorem dX9_seen_51 : decode cX9_seen 51 = .ok (.bipush 42, 2) := by decide +kernel
theorem dX9_seen_53 : decode cX9_seen 53 = .ok (.goto 5, 3) := by decide +kernel
theorem dX9_seen_56 : decode cX9_seen 56 = .ok (.iload 4, 2) := by decide +kernel
theorem dX9_seen_58 : decode cX9_seen 58 = .ok (.ireturn, 1) := by decide +kernel
theorem dX9_seenBy_0 : decode cX9_seenBy 0 = .ok (.aload_n 0, 1) := by decide +kernel
theorem dX9_seenBy_1 : decode cX9_seenBy 1 = .ok (.getfield 75, 3) := by decide +kernel
theorem dX9_seenBy_4 : decode cX9_seenBy 4 = .ok (.iload_n 1, 1) := by decide +kernel
theorem dX9_seenBy_5 : decode cX9_seenBy 5 = .ok (.aload_n 0, 1) := by decide +kernel
theorem dX9_seenBy_6 : decode cX9_seenBy 6 = .ok (.getfield 29, 3) := by decide +kernel
theorem dX9_seenBy_9 : decode cX9_seenBy 9 = .ok (.iload_n 2, 1) := by decide +kernel
theorem dX9_seenBy_10 : decode cX9_seenBy 10 = .ok (.iaload, 1) := by decide +kernel
theorem dX9_seenBy_11 : decode cX9_seenBy 11 = .ok (.invokevirtual 179, 3) := by decide +kernel
theorem dX9_seenBy_14 : decode cX9_seenBy 14 = .ok (.ifCond .eq 26, 3) := by decide +kernel
theorem dX9_seenBy_17 : decode cX9_seenBy 17 = .ok (.aload_n 0, 1) := by decide +kernel
theorem dX9_seenBy_18 : decode cX9_seenBy 18 = .ok (.iload_n 2, 1) := by decide +kernel
theorem dX9_seenBy_19 : decode cX9_seenBy 19 = .ok (.iload_n 3, 1) := by decide +kernel
theorem dX9_seenBy_20 : decode cX9_seenBy 20 = .ok (.aload_n 0, 1) := by decide +kernel
theorem dX9_seenBy_21 : decode cX9_seenBy 21 = .ok (.getfield 75, 3) := by decide +kernel
theorem dX9_seenBy_24 : decode cX9_seenBy 24 = .ok (.iload_n 1, 1) := by decide +kernel
theorem dX9_seenBy_25 : decode cX9_seenBy 25 = .ok (.aload_n 0, 1) := by decide +kernel
theorem dX9_seenBy_26 : decode cX9_seenBy 26 = .ok (.getfield 29, 3) := by decide +kernel
theorem dX9_seenBy_29 : decode cX9_seenBy 29 = .ok (.iload_n 2, 1) := by decide +kernel
theorem dX9_seenBy_30 : decode cX9_seenBy 30 = .ok (.iaload, 1) := by decide +kernel
theorem dX9_seenBy_31 : decode cX9_seenBy 31 = .ok (.invokevirtual 200, 3) := by decide +kernel
theorem dX9_seenBy_34 : decode cX9_seenBy 34 = .ok (.invokevirtual 203, 3) := by decide +kernel
theorem dX9_seenBy_37 : decode cX9_seenBy 37 = .ok (.goto 4, 3) := by decide +kernel
theorem dX9_seenBy_40 : decode cX9_seenBy 40 = .ok (.iconst 0, 1) := by decide +kernel
theorem dX9_seenBy_41 : decode cX9_seenBy 41 = .ok (.ireturn, 1) := by decide +kernel
theorem dX9_isPair_0 : decode cX9_isPair 0 = .ok (.aload_n 0, 1) := by decide +kernel
theorem dX9_isPair_1 : decode cX9_isPair 1 = .ok (.iload_n 1, 1) := by decide +kernel
theorem dX9_isPair_2 : decode cX9_isPair 2 = .ok (.invokevirtual 176, 3) := by decide +kernel
theorem dX9_isPair_5 : decode cX9_isPair 5 = .ok (.ifCond .eq 15, 3) := by decide +kernel
theorem dX9_isPair_8 : decode cX9_isPair 8 = .ok (.aload_n 0, 1) := by decide +kernel
theorem dX9_isPair_9 : decode cX9_isPair 9 = .ok (.iload_n 2, 1) := by decide +kernel
theorem dX9_isPair_10 : decode cX9_isPair 10 = .ok (.invokevirtual 164, 3) := by decide +kernel
theorem dX9_isPair_13 : decode cX9_isPair 13 = .ok (.ifCond .eq 7, 3) := by decide +kernel
theorem dX9_isPair_16 : decode cX9_isPair 16 = .ok (.iconst 1, 1) := by decide +kernel
theorem dX9_isPair_17 : decode cX9_isPair 17 = .ok (.goto 4, 3) := by decide +kernel
theorem dX9_isPair_20 : decode cX9_isPair 20 = .ok (.iconst 0, 1) := by decide +kernel
theorem dX9_isPair_21 : decode cX9_isPair 21 = .ok (.ireturn, 1) := by decide +kernel
theorem dX9_read_0 : decode cX9_read 0 = .ok (.aload_n 0, 1) := by decide +kernel
theorem dX9_read_1 : decode cX9_read 1 = .ok (.iconst 0, 1) := by decide +kernel
theorem dX9_read_2 : decode cX9_read 2 = .ok (.putfield 91, 3) := by decide +kernel
theorem dX9_read_5 : decode cX9_read 5 = .ok (.aload_n 0, 1) := by decide +kernel
theorem dX9_read_6 : decode cX9_read 6 = .ok (.iload_n 1, 1) := by decide +kernel
theorem dX9_read_7 : decode cX9_read 7 = .ok (.iload_n 2, 1) := by decide +kernel
theorem dX9_read_8 : decode cX9_read 8 = .ok (.invokevirtual 207, 3) := by decide +kernel
theorem dX9_read_11 : decode cX9_read 11 = .ok (.ifCond .ne 9, 3) := by decide +kernel
theorem dX9_read_14 : decode cX9_read 14 = .ok (.aload_n 0, 1) := by decide +kernel
theorem dX9_read_15 : decode cX9_read 15 = .ok (.iconst 1, 1) := by decide +kernel
theorem dX9_read_16 : decode cX9_read 16 = .ok (.invokevirtual 113, 3) := by decide +kernel
theorem dX9_read_19 : decode cX9_read 19 = .ok (.ireturn, 1) := by decide +kernel
theorem dX9_read_20 : decode cX9_read 20 = .ok (.aload_n 0, 1) := by decide +kernel
theorem dX9_read_21 : decode cX9_read 21 = .ok (.getfield 75, 3) := by decide +kernel
theorem dX9_read_24 : decode cX9_read 24 = .ok (.iload_n 1, 1) := by decide +kernel
theorem dX9_read_25 : decode cX9_read 25 = .ok (.aload_n 0, 1) := by decide +kernel
theorem dX9_read_26 : decode cX9_read 26 = .ok (.getfield 29, 3) := by decide +kernel
theorem dX9_read_29 : decode cX9_read 29 = .ok (.iload_n 2, 1) := by decide +kernel
theorem dX9_read_30 : decode cX9_read 30 = .ok (.iaload, 1) := by decide +kernel
theorem dX9_read_31 : decode cX9_read 31 = .ok (.invokevirtual 179, 3) := by decide +kernel
theorem dX9_read_34 : decode cX9_read 34 = .ok (.ifCond .ne 5, 3) := by decide +kernel
theorem dX9_read_37 : decode cX9_read 37 = .ok (.iconst (-1), 1) := by decide +kernel
theorem dX9_read_38 : decode cX9_read 38 = .ok (.ireturn, 1) := by decide +kernel
theorem dX9_read_39 : decode cX9_read 39 = .ok (.aload_n 0, 1) := by decide +kernel
theorem dX9_read_40 : decode cX9_read 40 = .ok (.aload_n 0, 1) := by decide +kernel
theorem dX9_read_41 : decode cX9_read 41 = .ok (.getfield 33, 3) := by decide +kernel
theorem dX9_read_44 : decode cX9_read 44 = .ok (.iload_n 2, 1) := by decide +kernel
theorem dX9_read_45 : decode cX9_read 45 = .ok (.aaload, 1) := by decide +kernel
theorem dX9_read_46 : decode cX9_read 46 = .ok (.arraylength, 1) := by decide +kernel
theorem dX9_read_47 : decode cX9_read 47 = .ok (.putfield 210, 3) := by decide +kernel
theorem dX9_read_50 : decode cX9_read 50 = .ok (.iconst 0, 1) := by decide +kernel
theorem dX9_read_51 : decode cX9_read 51 = .ok (.istore_n 3, 1) := by decide +kernel
theorem dX9_read_52 : decode cX9_read 52 = .ok (.iload_n 3, 1) := by decide +kernel
theorem dX9_read_53 : decode cX9_read 53 = .ok (.aload_n 0, 1) := by decide +kernel
theorem dX9_read_54 : decode cX9_read 54 = .ok (.getfield 210, 3) := by decide +kernel
theorem dX9_read_57 : decode cX9_read 57 = .ok (.if_icmp .ge 22, 3) := by decide +kernel
theorem dX9_read_60 : decode cX9_read 60 = .ok (.aload_n 0, 1) := by decide +kernel
theorem dX9_read_61 : decode cX9_read 61 = .ok (.getfield 17, 3) := by decide +kernel
theorem dX9_read_64 : decode cX9_read 64 = .ok (.iload_n 3, 1) := by decide +kernel
theorem dX9_read_65 : decode cX9_read 65 = .ok (.aload_n 0, 1) := by decide +kernel
theorem dX9_read_66 : decode cX9_read 66 = .ok (.iload_n 1, 1) := by decide +kernel
theorem dX9_read_67 : decode cX9_read 67 = .ok (.iload_n 2, 1) := by decide +kernel
theorem dX9_read_68 : decode cX9_read 68 = .ok (.iload_n 3, 1) := by decide +kernel
theorem dX9_read_69 : decode cX9_read 69 = .ok (.invokevirtual 213, 3) := by decide +kernel
theorem dX9_read_72 : decode cX9_read 72 = .ok (.iastore, 1) := by decide +kernel
theorem dX9_read_73 : decode cX9_read 73 = .ok (.iinc 3 1, 3) := by decide +kernel
theorem dX9_read_76 : decode cX9_read 76 = .ok (.goto (-24), 3) := by decide +kernel
theorem dX9_read_79 : decode cX9_read 79 = .ok (.aload_n 0, 1) := by decide +kernel
theorem dX9_read_80 : decode cX9_read 80 = .ok (.getfield 75, 3) := by decide +kernel
theorem dX9_read_83 : decode cX9_read 83 = .ok (.getfield 167, 3) := by decide +kernel
theorem dX9_read_86 : decode cX9_read 86 = .ok (.iload_n 2, 1) := by decide +kernel
theorem dX9_read_87 : decode cX9_read 87 = .ok (.dup2, 1) := by decide +kernel
theorem dX9_read_88 : decode cX9_read 88 = .ok (.iaload, 1) := by decide +kernel
theorem dX9_read_89 : decode cX9_read 89 = .ok (.iconst 1, 1) := by decide +kernel
theorem dX9_read_90 : decode cX9_read 90 = .ok (.iload_n 1, 1) := by decide +kernel
theorem dX9_read_91 : decode cX9_read 91 = .ok (.ishl, 1) := by decide +kernel
theorem dX9_read_92 : decode cX9_read 92 = .ok (.ior, 1) := by decide +kernel
theorem dX9_read_93 : decode cX9_read 93 = .ok (.iastore, 1) := by decide +kernel
theorem dX9_read_94 : decode cX9_read 94 = .ok (.aload_n 0, 1) := by decide +kernel
theorem dX9_read_95 : decode cX9_read 95 = .ok (.getfield 210, 3) := by decide +kernel
theorem dX9_read_98 : decode cX9_read 98 = .ok (.ireturn, 1) := by decide +kernel
theorem dX9_byteAt_0 : decode cX9_byteAt 0 = .ok (.aload_n 0, 1) := by decide +kernel
theorem dX9_byteAt_1 : decode cX9_byteAt 1 = .ok (.iconst 0, 1) := by decide +kernel
theorem dX9_byteAt_2 : decode cX9_byteAt 2 = .ok (.putfield 91, 3) := by decide +kernel
theorem dX9_byteAt_5 : decode cX9_byteAt 5 = .ok (.iload_n 1, 1) := by decide +kernel
theorem dX9_byteAt_6 : decode cX9_byteAt 6 = .ok (.iconst 0, 1) := by decide +kernel
theorem dX9_byteAt_7 : decode cX9_byteAt 7 = .ok (.aload_n 0, 1) := by decide +kernel
theorem dX9_byteAt_8 : decode cX9_byteAt 8 = .ok (.getfield 210, 3) := by decide +kernel
theorem dX9_byteAt_11 : decode cX9_byteAt 11 = .ok (.iconst 1, 1) := by decide +kernel
theorem dX9_byteAt_12 : decode cX9_byteAt 12 = .ok (.isub, 1) := by decide +kernel
theorem dX9_byteAt_13 : decode cX9_byteAt 13 = .ok (.invokestatic 97, 3) := by decide +kernel
theorem dX9_byteAt_16 : decode cX9_byteAt 16 = .ok (.ifCond .eq 12, 3) := by decide +kernel
theorem dX9_byteAt_19 : decode cX9_byteAt 19 = .ok (.aload_n 0, 1) := by decide +kernel
theorem dX9_byteAt_20 : decode cX9_byteAt 20 = .ok (.getfield 17, 3) := by decide +kernel
theorem dX9_byteAt_23 : decode cX9_byteAt 23 = .ok (.iload_n 1, 1) := by decide +kernel
theorem dX9_byteAt_24 : decode cX9_byteAt 24 = .ok (.iaload, 1) := by decide +kernel
theorem dX9_byteAt_25 : decode cX9_byteAt 25 = .ok (.goto 8, 3) := by decide +kernel
theorem dX9_byteAt_28 : decode cX9_byteAt 28 = .ok (.aload_n 0, 1) := by decide +kernel
theorem dX9_byteAt_29 : decode cX9_byteAt 29 = .ok (.iconst 1, 1) := by decide +kernel
theorem dX9_byteAt_30 : decode cX9_byteAt 30 = .ok (.invokevirtual 113, 3) := by decide +kernel
theorem dX9_byteAt_33 : decode cX9_byteAt 33 = .ok (.ireturn, 1) := by decide +kernel
theorem dX9_hiddenOf_0 : decode cX9_hiddenOf 0 = .ok (.iconst 0, 1) := by decide +kernel
theorem dX9_hiddenOf_1 : decode cX9_hiddenOf 1 = .ok (.istore_n 3, 1) := by decide +kernel
theorem dX9_hiddenOf_2 : decode cX9_hiddenOf 2 = .ok (.iconst 0, 1) := by decide +kernel
theorem dX9_hiddenOf_3 : decode cX9_hiddenOf 3 = .ok (.istore 4, 2) := by decide +kernel
theorem dX9_hiddenOf_5 : decode cX9_hiddenOf 5 = .ok (.iload 4, 2) := by decide +kernel
theorem dX9_hiddenOf_7 : decode cX9_hiddenOf 7 = .ok (.aload_n 0, 1) := by decide +kernel
theorem dX9_hiddenOf_8 : decode cX9_hiddenOf 8 = .ok (.getfield 33, 3) := by decide +kernel
theorem dX9_hiddenOf_11 : decode cX9_hiddenOf 11 = .ok (.iload_n 2, 1) := by decide +kernel
theorem dX9_hiddenOf_12 : decode cX9_hiddenOf 12 = .ok (.aaload, 1) := by decide +kernel
theorem dX9_hiddenOf_13 : decode cX9_hiddenOf 13 = .ok (.arraylength, 1) := by decide +kernel
theorem dX9_hiddenOf_14 : decode cX9_hiddenOf 14 = .ok (.if_icmp .ge 37, 3) := by decide +kernel
theorem dX9_hiddenOf_17 : decode cX9_hiddenOf 17 = .ok (.iload_n 3, 1) := by decide +kernel
theorem dX9_hiddenOf_18 : decode cX9_hiddenOf 18 = .ok (.aload_n 0, 1) := by decide +kernel
theorem dX9_hiddenOf_19 : decode cX9_hiddenOf 19 = .ok (.iload_n 1, 1) := by decide +kernel
theorem dX9_hiddenOf_20 : decode cX9_hiddenOf 20 = .ok (.iload_n 2, 1) := by decide +kernel
theorem dX9_hiddenOf_21 : decode cX9_hiddenOf 21 = .ok (.iload 4, 2) := by decide +kernel
theorem dX9_hiddenOf_23 : decode cX9_hiddenOf 23 = .ok (.invokevirtual 213, 3) := by decide +kernel
theorem dX9_hiddenOf_26 : decode cX9_hiddenOf 26 = .ok (.aload_n 0, 1) := by decide +kernel
theorem dX9_hiddenOf_27 : decode cX9_hiddenOf 27 = .ok (.getfield 33, 3) := by decide +kernel
theorem dX9_hiddenOf_30 : decode cX9_hiddenOf 30 = .ok (.iload_n 2, 1) := by decide +kernel
theorem dX9_hiddenOf_31 : decode cX9_hiddenOf 31 = .ok (.aaload, 1) := by decide +kernel
theorem dX9_hiddenOf_32 : decode cX9_hiddenOf 32 = .ok (.iload 4, 2) := by decide +kernel
theorem dX9_hiddenOf_34 : decode cX9_hiddenOf 34 = .ok (.iaload, 1) := by decide +kernel
theorem dX9_hiddenOf_35 : decode cX9_hiddenOf 35 = .ok (.if_icmp .ne 7, 3) := by decide +kernel
theorem dX9_hiddenOf_38 : decode cX9_hiddenOf 38 = .ok (.iconst 0, 1) := by decide +kernel
theorem dX9_hiddenOf_39 : decode cX9_hiddenOf 39 = .ok (.goto 4, 3) := by decide +kernel
theorem dX9_hiddenOf_42 : decode cX9_hiddenOf 42 = .ok (.iconst 1, 1) := by decide +kernel
theorem dX9_hiddenOf_43 : decode cX9_hiddenOf 43 = .ok (.iadd, 1) := by decide +kernel
theorem dX9_hiddenOf_44 : decode cX9_hiddenOf 44 = .ok (.istore_n 3, 1) := by decide +kernel
theorem dX9_hiddenOf_45 : decode cX9_hiddenOf 45 = .ok (.iinc 4 1, 3) := by decide +kernel
theorem dX9_hiddenOf_48 : decode cX9_hiddenOf 48 = .ok (.goto (-43), 3) := by decide +kernel
theorem dX9_hiddenOf_51 : decode cX9_hiddenOf 51 = .ok (.iload_n 3, 1) := by decide +kernel
theorem dX9_hiddenOf_52 : decode cX9_hiddenOf 52 = .ok (.ireturn, 1) := by decide +kernel
theorem dX9_hidden_0 : decode cX9_hidden 0 = .ok (.aload_n 0, 1) := by decide +kernel
theorem dX9_hidden_1 : decode cX9_hidden 1 = .ok (.iconst 0, 1) := by decide +kernel
theorem dX9_hidden_2 : decode cX9_hidden 2 = .ok (.putfield 91, 3) := by decide +kernel
theorem dX9_hidden_5 : decode cX9_hidden 5 = .ok (.aload_n 0, 1) := by decide +kernel
theorem dX9_hidden_6 : decode cX9_hidden 6 = .ok (.iload_n 1, 1) := by decide +kernel
theorem dX9_hidden_7 : decode cX9_hidden 7 = .ok (.iload_n 2, 1) := by decide +kernel
theorem dX9_hidden_8 : decode cX9_hidden 8 = .ok (.invokevirtual 207, 3) := by decide +kernel
theorem dX9_hidden_11 : decode cX9_hidden 11 = .ok (.ifCond .eq 12, 3) := by decide +kernel
theorem dX9_hidden_14 : decode cX9_hidden 14 = .ok (.aload_n 0, 1) := by decide +kernel
theorem dX9_hidden_15 : decode cX9_hidden 15 = .ok (.iload_n 1, 1) := by decide +kernel
theorem dX9_hidden_16 : decode cX9_hidden 16 = .ok (.iload_n 2, 1) := by decide +kernel
theorem dX9_hidden_17 : decode cX9_hidden 17 = .ok (.invokevirtual 216, 3) := by decide +kernel
theorem dX9_hidden_20 : decode cX9_hidden 20 = .ok (.goto 8, 3) := by decide +kernel
theorem dX9_hidden_23 : decode cX9_hidden 23 = .ok (.aload_n 0, 1) := by decide +kernel
theorem dX9_hidden_24 : decode cX9_hidden 24 = .ok (.iconst 1, 1) := by decide +kernel
theorem dX9_hidden_25 : decode cX9_hidden 25 = .ok (.invokevirtual 113, 3) := by decide +kernel
theorem dX9_hidden_28 : decode cX9_hidden 28 = .ok (.ireturn, 1) := by decide +kernel
theorem dX9_differs_0 : decode cX9_differs 0 = .ok (.aload_n 0, 1) := by decide +kernel
theorem dX9_differs_1 : decode cX9_differs 1 = .ok (.iconst 0, 1) := by decide +kernel
theorem dX9_differs_2 : decode cX9_differs 2 = .ok (.putfield 91, 3) := by decide +kernel
theorem dX9_differs_5 : decode cX9_differs 5 = .ok (.aload_n 0, 1) := by decide +kernel
theorem dX9_differs_6 : decode cX9_differs 6 = .ok (.iload_n 1, 1) := by decide +kernel
theorem dX9_differs_7 : decode cX9_differs 7 = .ok (.iload_n 3, 1) := by decide +kernel
theorem dX9_differs_8 : decode cX9_differs 8 = .ok (.invokevirtual 207, 3) := by decide +kernel
theorem dX9_differs_11 : decode cX9_differs 11 = .ok (.ifCond .eq 11, 3) := by decide +kernel
theorem dX9_differs_14 : decode cX9_differs 14 = .ok (.aload_n 0, 1) := by decide +kernel
theorem dX9_differs_15 : decode cX9_differs 15 = .ok (.iload_n 2, 1) := by decide +kernel
theorem dX9_differs_16 : decode cX9_differs 16 = .ok (.invokevirtual 176, 3) := by decide +kernel
theorem dX9_differs_19 : decode cX9_differs 19 = .ok (.ifCond .ne 9, 3) := by decide +kernel
theorem dX9_differs_22 : decode cX9_differs 22 = .ok (.aload_n 0, 1) := by decide +kernel
theorem dX9_differs_23 : decode cX9_differs 23 = .ok (.iconst 1, 1) := by decide +kernel
theorem dX9_differs_24 : decode cX9_differs 24 = .ok (.invokevirtual 113, 3) := by decide +kernel
theorem dX9_differs_27 : decode cX9_differs 27 = .ok (.ireturn, 1) := by decide +kernel
theorem dX9_differs_28 : decode cX9_differs 28 = .ok (.iconst 0, 1) := by decide +kernel
theorem dX9_differs_29 : decode cX9_differs 29 = .ok (.istore 4, 2) := by decide +kernel
theorem dX9_differs_31 : decode cX9_differs 31 = .ok (.iload 4, 2) := by decide +kernel
theorem dX9_differs_33 : decode cX9_differs 33 = .ok (.aload_n 0, 1) := by decide +kernel
theorem dX9_differs_34 : decode cX9_differs 34 = .ok (.getfield 33, 3) := by decide +kernel
theorem dX9_differs_37 : decode cX9_differs 37 = .ok (.iload_n 3, 1) := by decide +kernel
theorem dX9_differs_38 : decode cX9_differs 38 = .ok (.aaload, 1) := by decide +kernel
theorem dX9_differs_39 : decode cX9_differs 39 = .ok (.arraylength, 1) := by decide +kernel
theorem dX9_differs_40 : decode cX9_differs 40 = .ok (.if_icmp .ge 31, 3) := by decide +kernel
theorem dX9_differs_43 : decode cX9_differs 43 = .ok (.aload_n 0, 1) := by decide +kernel
theorem dX9_differs_44 : decode cX9_differs 44 = .ok (.iload_n 1, 1) := by decide +kernel
theorem dX9_differs_45 : decode cX9_differs 45 = .ok (.iload_n 3, 1) := by decide +kernel
theorem dX9_differs_46 : decode cX9_differs 46 = .ok (.iload 4, 2) := by decide +kernel
theorem dX9_differs_48 : decode cX9_differs 48 = .ok (.invokevirtual 213, 3) := by decide +kernel
theorem dX9_differs_51 : decode cX9_differs 51 = .ok (.aload_n 0, 1) := by decide +kernel
theorem dX9_differs_52 : decode cX9_differs 52 = .ok (.iload_n 2, 1) := by decide +kernel
theorem dX9_differs_53 : decode cX9_differs 53 = .ok (.iload_n 3, 1) := by decide +kernel
theorem dX9_differs_54 : decode cX9_differs 54 = .ok (.iload 4, 2) := by decide +kernel
theorem dX9_differs_56 : decode cX9_differs 56 = .ok (.invokevirtual 213, 3) := by decide +kernel
theorem dX9_differs_59 : decode cX9_differs 59 = .ok (.if_icmp .eq 6, 3) := by decide +kernel
theorem dX9_differs_62 : decode cX9_differs 62 = .ok (.iload 4, 2) := by decide +kernel
theorem dX9_differs_64 : decode cX9_differs 64 = .ok (.ireturn, 1) := by decide +kernel
theorem dX9_differs_65 : decode cX9_differs 65 = .ok (.iinc 4 1, 3) := by decide +kernel
theorem dX9_differs_68 : decode cX9_differs 68 = .ok (.goto (-37), 3) := by decide +kernel
theorem dX9_differs_71 : decode cX9_differs 71 = .ok (.iconst (-1), 1) := by decide +kernel
theorem dX9_differs_72 : decode cX9_differs 72 = .ok (.ireturn, 1) := by decide +kernel
theorem dX9_find_0 : decode cX9_find 0 = .ok (.aload_n 0, 1) := by decide +kernel
theorem dX9_find_1 : decode cX9_find 1 = .ok (.iconst 0, 1) := by decide +kernel
theorem dX9_find_2 : decode cX9_find 2 = .ok (.putfield 91, 3) := by decide +kernel
theorem dX9_find_5 : decode cX9_find 5 = .ok (.aload_n 0, 1) := by decide +kernel
theorem dX9_find_6 : decode cX9_find 6 = .ok (.iload_n 1, 1) := by decide +kernel
theorem dX9_find_7 : decode cX9_find 7 = .ok (.iload_n 2, 1) := by decide +kernel
theorem dX9_find_8 : decode cX9_find 8 = .ok (.invokevirtual 207, 3) := by decide +kernel
theorem dX9_find_11 : decode cX9_find 11 = .ok (.ifCond .ne 9, 3) := by decide +kernel
theorem dX9_find_14 : decode cX9_find 14 = .ok (.aload_n 0, 1) := by decide +kernel
theorem dX9_find_15 : decode cX9_find 15 = .ok (.iconst 1, 1) := by decide +kernel
theorem dX9_find_16 : decode cX9_find 16 = .ok (.invokevirtual 113, 3) := by decide +kernel
theorem dX9_find_19 : decode cX9_find 19 = .ok (.ireturn, 1) := by decide +kernel
theorem dX9_find_20 : decode cX9_find 20 = .ok (.aload_n 0, 1) := by decide +kernel
theorem dX9_find_21 : decode cX9_find 21 = .ok (.getfield 110, 3) := by decide +kernel
theorem dX9_find_24 : decode cX9_find 24 = .ok (.ifCond .eq 20, 3) := by decide +kernel
theorem dX9_find_27 : decode cX9_find 27 = .ok (.aload_n 0, 1) := by decide +kernel
theorem dX9_find_28 : decode cX9_find 28 = .ok (.getfield 75, 3) := by decide +kernel
theorem dX9_find_31 : decode cX9_find 31 = .ok (.iload_n 1, 1) := by decide +kernel
theorem dX9_find_32 : decode cX9_find 32 = .ok (.aload_n 0, 1) := by decide +kernel
theorem dX9_find_33 : decode cX9_find 33 = .ok (.getfield 29, 3) := by decide +kernel
theorem dX9_find_36 : decode cX9_find 36 = .ok (.iload_n 2, 1) := by decide +kernel
theorem dX9_find_37 : decode cX9_find 37 = .ok (.iaload, 1) := by decide +kernel
theorem dX9_find_38 : decode cX9_find 38 = .ok (.invokevirtual 179, 3) := by decide +kernel
theorem dX9_find_41 : decode cX9_find 41 = .ok (.ifCond .ne 5, 3) := by decide +kernel
theorem dX9_find_44 : decode cX9_find 44 = .ok (.iconst (-1), 1) := by decide +kernel
theorem dX9_find_45 : decode cX9_find 45 = .ok (.ireturn, 1) := by decide +kernel
theorem dX9_find_46 : decode cX9_find 46 = .ok (.iconst 0, 1) := by decide +kernel
theorem dX9_find_47 : decode cX9_find 47 = .ok (.istore_n 3, 1) := by decide +kernel
theorem dX9_find_48 : decode cX9_find 48 = .ok (.iload_n 3, 1) := by decide +kernel
theorem dX9_find_49 : decode cX9_find 49 = .ok (.aload_n 0, 1) := by decide +kernel
theorem dX9_find_50 : decode cX9_find 50 = .ok (.getfield 110, 3) := by decide +kernel
theorem dX9_find_53 : decode cX9_find 53 = .ok (.iadd, 1) := by decide +kernel
theorem dX9_find_54 : decode cX9_find 54 = .ok (.aload_n 0, 1) := by decide +kernel
theorem dX9_find_55 : decode cX9_find 55 = .ok (.getfield 33, 3) := by decide +kernel
theorem dX9_find_58 : decode cX9_find 58 = .ok (.iload_n 2, 1) := by decide +kernel
theorem dX9_find_59 : decode cX9_find 59 = .ok (.aaload, 1) := by decide +kernel
theorem dX9_find_60 : decode cX9_find 60 = .ok (.arraylength, 1) := by decide +kernel
theorem dX9_find_61 : decode cX9_find 61 = .ok (.if_icmp .gt 58, 3) := by decide +kernel
theorem dX9_find_64 : decode cX9_find 64 = .ok (.iconst 0, 1) := by decide +kernel
theorem dX9_find_65 : decode cX9_find 65 = .ok (.istore 4, 2) := by decide +kernel
theorem dX9_find_67 : decode cX9_find 67 = .ok (.iload 4, 2) := by decide +kernel
theorem dX9_find_69 : decode cX9_find 69 = .ok (.aload_n 0, 1) := by decide +kernel
theorem dX9_find_70 : decode cX9_find 70 = .ok (.getfield 110, 3) := by decide +kernel
theorem dX9_find_73 : decode cX9_find 73 = .ok (.if_icmp .ge 29, 3) := by decide +kernel
theorem dX9_find_76 : decode cX9_find 76 = .ok (.aload_n 0, 1) := by decide +kernel
theorem dX9_find_77 : decode cX9_find 77 = .ok (.iload_n 1, 1) := by decide +kernel
theorem dX9_find_78 : decode cX9_find 78 = .ok (.iload_n 2, 1) := by decide +kernel
theorem dX9_find_79 : decode cX9_find 79 = .ok (.iload_n 3, 1) := by decide +kernel
theorem dX9_find_80 : decode cX9_find 80 = .ok (.iload 4, 2) := by decide +kernel
theorem dX9_find_82 : decode cX9_find 82 = .ok (.iadd, 1) := by decide +kernel
theorem dX9_find_83 : decode cX9_find 83 = .ok (.invokevirtual 213, 3) := by decide +kernel
theorem dX9_find_86 : decode cX9_find 86 = .ok (.aload_n 0, 1) := by decide +kernel
theorem dX9_find_87 : decode cX9_find 87 = .ok (.getfield 9, 3) := by decide +kernel
theorem dX9_find_90 : decode cX9_find 90 = .ok (.iload 4, 2) := by decide +kernel
theorem dX9_find_92 : decode cX9_find 92 = .ok (.iaload, 1) := by decide +kernel
theorem dX9_find_93 : decode cX9_find 93 = .ok (.if_icmp .ne 9, 3) := by decide +kernel
theorem dX9_find_96 : decode cX9_find 96 = .ok (.iinc 4 1, 3) := by decide +kernel
theorem dX9_find_99 : decode cX9_find 99 = .ok (.goto (-32), 3) := by decide +kernel
theorem dX9_find_102 : decode cX9_find 102 = .ok (.iload 4, 2) := by decide +kernel
theorem dX9_find_104 : decode cX9_find 104 = .ok (.aload_n 0, 1) := by decide +kernel
theorem dX9_find_105 : decode cX9_find 105 = .ok (.getfield 110, 3) := by decide +kernel
theorem dX9_find_108 : decode cX9_find 108 = .ok (.if_icmp .ne 5, 3) := by decide +kernel
theorem dX9_find_111 : decode cX9_find 111 = .ok (.iload_n 3, 1) := by decide +kernel
theorem dX9_find_112 : decode cX9_find 112 = .ok (.ireturn, 1) := by decide +kernel
theorem dX9_find_113 : decode cX9_find 113 = .ok (.iinc 3 1, 3) := by decide +kernel
theorem dX9_find_116 : decode cX9_find 116 = .ok (.goto (-68), 3) := by decide +kernel
theorem dX9_find_119 : decode cX9_find 119 = .ok (.iconst (-1), 1) := by decide +kernel
theorem dX9_find_120 : decode cX9_find 120 = .ok (.ireturn, 1) := by decide +kernel
theorem dX9_least_0 : decode cX9_least 0 = .ok (.aload_n 0, 1) := by decide +kernel
theorem dX9_least_1 : decode cX9_least 1 = .ok (.iconst 0, 1) := by decide +kernel
theorem dX9_least_2 : decode cX9_least 2 = .ok (.putfield 91, 3) := by decide +kernel
theorem dX9_least_5 : decode cX9_least 5 = .ok (.aload_n 0, 1) := by decide +kernel
theorem dX9_least_6 : decode cX9_least 6 = .ok (.iload_n 1, 1) := by decide +kernel
theorem dX9_least_7 : decode cX9_least 7 = .ok (.invokevirtual 164, 3) := by decide +kernel
theorem dX9_least_10 : decode cX9_least 10 = .ok (.ifCond .ne 9, 3) := by decide +kernel
theorem dX9_least_13 : decode cX9_least 13 = .ok (.aload_n 0, 1) := by decide +kernel
theorem dX9_least_14 : decode cX9_least 14 = .ok (.iconst 1, 1) := by decide +kernel
theorem dX9_least_15 : decode cX9_least 15 = .ok (.invokevirtual 113, 3) := by decide +kernel
theorem dX9_least_18 : decode cX9_least 18 = .ok (.ireturn, 1) := by decide +kernel
theorem dX9_least_19 : decode cX9_least 19 = .ok (.iload_n 2, 1) := by decide +kernel
theorem dX9_least_20 : decode cX9_least 20 = .ok (.iconst 0, 1) := by decide +kernel
theorem dX9_least_21 : decode cX9_least 21 = .ok (.iload_n 3, 1) := by decide +kernel
theorem dX9_least_22 : decode cX9_least 22 = .ok (.invokestatic 97, 3) := by decide +kernel
theorem dX9_least_25 : decode cX9_least 25 = .ok (.ifCond .eq 14, 3) := by decide +kernel
theorem dX9_least_28 : decode cX9_least 28 = .ok (.iload_n 3, 1) := by decide +kernel
theorem dX9_least_29 : decode cX9_least 29 = .ok (.aload_n 0, 1) := by decide +kernel
theorem dX9_least_30 : decode cX9_least 30 = .ok (.getfield 33, 3) := by decide +kernel
theorem dX9_least_33 : decode cX9_least 33 = .ok (.iload_n 1, 1) := by decide +kernel
theorem dX9_least_34 : decode cX9_least 34 = .ok (.aaload, 1) := by decide +kernel
theorem dX9_least_35 : decode cX9_least 35 = .ok (.arraylength, 1) := by decide +kernel
theorem dX9_least_36 : decode cX9_least 36 = .ok (.if_icmp .le 9, 3) := by decide +kernel
theorem dX9_least_39 : decode cX9_least 39 = .ok (.aload_n 0, 1) := by decide +kernel
theorem dX9_least_40 : decode cX9_least 40 = .ok (.iconst 2, 1) := by decide +kernel
theorem dX9_least_41 : decode cX9_least 41 = .ok (.invokevirtual 113, 3) := by decide +kernel
theorem dX9_least_44 : decode cX9_least 44 = .ok (.ireturn, 1) := by decide +kernel
theorem dX9_least_45 : decode cX9_least 45 = .ok (.aload_n 0, 1) := by decide +kernel
theorem dX9_least_46 : decode cX9_least 46 = .ok (.getfield 20, 3) := by decide +kernel
theorem dX9_least_49 : decode cX9_least 49 = .ok (.aload_n 0, 1) := by decide +kernel
theorem dX9_least_50 : decode cX9_least 50 = .ok (.getfield 29, 3) := by decide +kernel
theorem dX9_least_53 : decode cX9_least 53 = .ok (.iload_n 1, 1) := by decide +kernel
theorem dX9_least_54 : decode cX9_least 54 = .ok (.iaload, 1) := by decide +kernel
theorem dX9_least_55 : decode cX9_least 55 = .ok (.iaload, 1) := by decide +kernel
theorem dX9_least_56 : decode cX9_least 56 = .ok (.istore 4, 2) := by decide +kernel
theorem dX9_least_58 : decode cX9_least 58 = .ok (.iload_n 2, 1) := by decide +kernel
theorem dX9_least_59 : decode cX9_least 59 = .ok (.istore 5, 2) := by decide +kernel
theorem dX9_least_61 : decode cX9_least 61 = .ok (.iload 5, 2) := by decide +kernel
theorem dX9_least_63 : decode cX9_least 63 = .ok (.iload_n 3, 1) := by decide +kernel
theorem dX9_least_64 : decode cX9_least 64 = .ok (.if_icmp .ge 36, 3) := by decide +kernel
theorem dX9_least_67 : decode cX9_least 67 = .ok (.aload_n 0, 1) := by decide +kernel
theorem dX9_least_68 : decode cX9_least 68 = .ok (.iload_n 1, 1) := by decide +kernel
theorem dX9_least_69 : decode cX9_least 69 = .ok (.iload 5, 2) := by decide +kernel
theorem dX9_least_71 : decode cX9_least 71 = .ok (.iload 4, 2) := by decide +kernel
theorem dX9_least_73 : decode cX9_least 73 = .ok (.invokevirtual 203, 3) := by decide +kernel
theorem dX9_least_76 : decode cX9_least 76 = .ok (.aload_n 0, 1) := by decide +kernel
theorem dX9_least_77 : decode cX9_least 77 = .ok (.getfield 33, 3) := by decide +kernel
theorem dX9_least_80 : decode cX9_least 80 = .ok (.iload_n 1, 1) := by decide +kernel
theorem dX9_least_81 : decode cX9_least 81 = .ok (.aaload, 1) := by decide +kernel
theorem dX9_least_82 : decode cX9_least 82 = .ok (.iload 5, 2) := by decide +kernel
theorem dX9_least_84 : decode cX9_least 84 = .ok (.iaload, 1) := by decide +kernel
theorem dX9_least_85 : decode cX9_least 85 = .ok (.if_icmp .eq 9, 3) := by decide +kernel
theorem dX9_least_88 : decode cX9_least 88 = .ok (.iinc 4 1, 3) := by decide +kernel
theorem dX9_least_91 : decode cX9_least 91 = .ok (.goto (-24), 3) := by decide +kernel
theorem dX9_least_94 : decode cX9_least 94 = .ok (.iinc 5 1, 3) := by decide +kernel
theorem dX9_least_97 : decode cX9_least 97 = .ok (.goto (-36), 3) := by decide +kernel
theorem dX9_least_100 : decode cX9_least 100 = .ok (.iload 4, 2) := by decide +kernel
theorem dX9_least_102 : decode cX9_least 102 = .ok (.ireturn, 1) := by decide +kernel
theorem dX9_lend_0 : decode cX9_lend 0 = .ok (.aload_n 0, 1) := by decide +kernel
theorem dX9_lend_1 : decode cX9_lend 1 = .ok (.iconst 0, 1) := by decide +kernel
theorem dX9_lend_2 : decode cX9_lend 2 = .ok (.putfield 91, 3) := by decide +kernel
theorem dX9_lend_5 : decode cX9_lend 5 = .ok (.aload_n 0, 1) := by decide +kernel
theorem dX9_lend_6 : decode cX9_lend 6 = .ok (.iload_n 2, 1) := by decide +kernel
theorem dX9_lend_7 : decode cX9_lend 7 = .ok (.iload_n 1, 1) := by decide +kernel
theorem dX9_lend_8 : decode cX9_lend 8 = .ok (.invokevirtual 207, 3) := by decide +kernel
theorem dX9_lend_11 : decode cX9_lend 11 = .ok (.ifCond .ne 9, 3) := by decide +kernel
theorem dX9_lend_14 : decode cX9_lend 14 = .ok (.aload_n 0, 1) := by decide +kernel
theorem dX9_lend_15 : decode cX9_lend 15 = .ok (.iconst 1, 1) := by decide +kernel
theorem dX9_lend_16 : decode cX9_lend 16 = .ok (.invokevirtual 113, 3) := by decide +kernel
theorem dX9_lend_19 : decode cX9_lend 19 = .ok (.ireturn, 1) := by decide +kernel
theorem dX9_lend_20 : decode cX9_lend 20 = .ok (.iload_n 3, 1) := by decide +kernel
theorem dX9_lend_21 : decode cX9_lend 21 = .ok (.iconst 1, 1) := by decide +kernel
theorem dX9_lend_22 : decode cX9_lend 22 = .ok (.bipush 60, 2) := by decide +kernel
theorem dX9_lend_24 : decode cX9_lend 24 = .ok (.invokestatic 97, 3) := by decide +kernel
theorem dX9_lend_27 : decode cX9_lend 27 = .ok (.ifCond .ne 9, 3) := by decide +kernel
theorem dX9_lend_30 : decode cX9_lend 30 = .ok (.aload_n 0, 1) := by decide +kernel
theorem dX9_lend_31 : decode cX9_lend 31 = .ok (.iconst 2, 1) := by decide +kernel
theorem dX9_lend_32 : decode cX9_lend 32 = .ok (.invokevirtual 113, 3) := by decide +kernel
theorem dX9_lend_35 : decode cX9_lend 35 = .ok (.ireturn, 1) := by decide +kernel
theorem dX9_lend_36 : decode cX9_lend 36 = .ok (.aload_n 0, 1) := by decide +kernel
theorem dX9_lend_37 : decode cX9_lend 37 = .ok (.getfield 75, 3) := by decide +kernel
theorem dX9_lend_40 : decode cX9_lend 40 = .ok (.getfield 158, 3) := by decide +kernel
theorem dX9_lend_43 : decode cX9_lend 43 = .ok (.iload_n 1, 1) := by decide +kernel
theorem dX9_lend_44 : decode cX9_lend 44 = .ok (.iaload, 1) := by decide +kernel
theorem dX9_lend_45 : decode cX9_lend 45 = .ok (.iconst (-1), 1) := by decide +kernel
theorem dX9_lend_46 : decode cX9_lend 46 = .ok (.if_icmp .ne 12, 3) := by decide +kernel
theorem dX9_lend_49 : decode cX9_lend 49 = .ok (.aload_n 0, 1) := by decide +kernel
theorem dX9_lend_50 : decode cX9_lend 50 = .ok (.iload_n 2, 1) := by decide +kernel
theorem dX9_lend_51 : decode cX9_lend 51 = .ok (.iload_n 1, 1) := by decide +kernel
theorem dX9_lend_52 : decode cX9_lend 52 = .ok (.invokevirtual 216, 3) := by decide +kernel
theorem dX9_lend_55 : decode cX9_lend 55 = .ok (.ifCond .le 9, 3) := by decide +kernel
theorem dX9_lend_58 : decode cX9_lend 58 = .ok (.aload_n 0, 1) := by decide +kernel
theorem dX9_lend_59 : decode cX9_lend 59 = .ok (.iconst 3, 1) := by decide +kernel
theorem dX9_lend_60 : decode cX9_lend 60 = .ok (.invokevirtual 113, 3) := by decide +kernel
theorem dX9_lend_63 : decode cX9_lend 63 = .ok (.ireturn, 1) := by decide +kernel
theorem dX9_lend_64 : decode cX9_lend 64 = .ok (.aload_n 0, 1) := by decide +kernel
theorem dX9_lend_65 : decode cX9_lend 65 = .ok (.getfield 75, 3) := by decide +kernel
theorem dX9_lend_68 : decode cX9_lend 68 = .ok (.getfield 158, 3) := by decide +kernel
theorem dX9_lend_71 : decode cX9_lend 71 = .ok (.iload_n 1, 1) := by decide +kernel
theorem dX9_lend_72 : decode cX9_lend 72 = .ok (.iload_n 2, 1) := by decide +kernel
theorem dX9_lend_73 : decode cX9_lend 73 = .ok (.iastore, 1) := by decide +kernel
theorem dX9_lend_74 : decode cX9_lend 74 = .ok (.aload_n 0, 1) := by decide +kernel
theorem dX9_lend_75 : decode cX9_lend 75 = .ok (.getfield 75, 3) := by decide +kernel
theorem dX9_lend_78 : decode cX9_lend 78 = .ok (.getfield 161, 3) := by decide +kernel
theorem dX9_lend_81 : decode cX9_lend 81 = .ok (.iload_n 1, 1) := by decide +kernel
theorem dX9_lend_82 : decode cX9_lend 82 = .ok (.aload_n 0, 1) := by decide +kernel
theorem dX9_lend_83 : decode cX9_lend 83 = .ok (.getfield 75, 3) := by decide +kernel
theorem dX9_lend_86 : decode cX9_lend 86 = .ok (.getfield 219, 3) := by decide +kernel
theorem dX9_lend_89 : decode cX9_lend 89 = .ok (.iload_n 3, 1) := by decide +kernel
theorem dX9_lend_90 : decode cX9_lend 90 = .ok (.iadd, 1) := by decide +kernel
theorem dX9_lend_91 : decode cX9_lend 91 = .ok (.iastore, 1) := by decide +kernel
theorem dX9_lend_92 : decode cX9_lend 92 = .ok (.aload_n 0, 1) := by decide +kernel
theorem dX9_lend_93 : decode cX9_lend 93 = .ok (.getfield 75, 3) := by decide +kernel
theorem dX9_lend_96 : decode cX9_lend 96 = .ok (.getfield 161, 3) := by decide +kernel
theorem dX9_lend_99 : decode cX9_lend 99 = .ok (.iload_n 1, 1) := by decide +kernel
theorem dX9_lend_100 : decode cX9_lend 100 = .ok (.iaload, 1) := by decide +kernel
theorem dX9_lend_101 : decode cX9_lend 101 = .ok (.ireturn, 1) := by decide +kernel
theorem dX9_back_0 : decode cX9_back 0 = .ok (.aload_n 0, 1) := by decide +kernel
theorem dX9_back_1 : decode cX9_back 1 = .ok (.iconst 0, 1) := by decide +kernel
theorem dX9_back_2 : decode cX9_back 2 = .ok (.putfield 91, 3) := by decide +kernel
theorem dX9_back_5 : decode cX9_back 5 = .ok (.aload_n 0, 1) := by decide +kernel
theorem dX9_back_6 : decode cX9_back 6 = .ok (.iload_n 1, 1) := by decide +kernel
theorem dX9_back_7 : decode cX9_back 7 = .ok (.invokevirtual 164, 3) := by decide +kernel
theorem dX9_back_10 : decode cX9_back 10 = .ok (.ifCond .ne 9, 3) := by decide +kernel
theorem dX9_back_13 : decode cX9_back 13 = .ok (.aload_n 0, 1) := by decide +kernel
theorem dX9_back_14 : decode cX9_back 14 = .ok (.iconst 1, 1) := by decide +kernel
theorem dX9_back_15 : decode cX9_back 15 = .ok (.invokevirtual 113, 3) := by decide +kernel
theorem dX9_back_18 : decode cX9_back 18 = .ok (.ireturn, 1) := by decide +kernel
theorem dX9_back_19 : decode cX9_back 19 = .ok (.aload_n 0, 1) := by decide +kernel
theorem dX9_back_20 : decode cX9_back 20 = .ok (.getfield 75, 3) := by decide +kernel
theorem dX9_back_23 : decode cX9_back 23 = .ok (.getfield 158, 3) := by decide +kernel
theorem dX9_back_26 : decode cX9_back 26 = .ok (.iload_n 1, 1) := by decide +kernel
theorem dX9_back_27 : decode cX9_back 27 = .ok (.iaload, 1) := by decide +kernel
theorem dX9_back_28 : decode cX9_back 28 = .ok (.istore_n 2, 1) := by decide +kernel
theorem dX9_back_29 : decode cX9_back 29 = .ok (.aload_n 0, 1) := by decide +kernel
theorem dX9_back_30 : decode cX9_back 30 = .ok (.getfield 75, 3) := by decide +kernel
theorem dX9_back_33 : decode cX9_back 33 = .ok (.getfield 158, 3) := by decide +kernel
theorem dX9_back_36 : decode cX9_back 36 = .ok (.iload_n 1, 1) := by decide +kernel
theorem dX9_back_37 : decode cX9_back 37 = .ok (.iconst (-1), 1) := by decide +kernel
theorem dX9_back_38 : decode cX9_back 38 = .ok (.iastore, 1) := by decide +kernel
theorem dX9_back_39 : decode cX9_back 39 = .ok (.aload_n 0, 1) := by decide +kernel
theorem dX9_back_40 : decode cX9_back 40 = .ok (.getfield 75, 3) := by decide +kernel
theorem dX9_back_43 : decode cX9_back 43 = .ok (.getfield 161, 3) := by decide +kernel
theorem dX9_back_46 : decode cX9_back 46 = .ok (.iload_n 1, 1) := by decide +kernel
theorem dX9_back_47 : decode cX9_back 47 = .ok (.iconst (-1), 1) := by decide +kernel
theorem dX9_back_48 : decode cX9_back 48 = .ok (.iastore, 1) := by decide +kernel
theorem dX9_back_49 : decode cX9_back 49 = .ok (.iload_n 2, 1) := by decide +kernel
theorem dX9_back_50 : decode cX9_back 50 = .ok (.ireturn, 1) := by decide +kernel
theorem dX9_takeIn_0 : decode cX9_takeIn 0 = .ok (.aload_n 0, 1) := by decide +kernel
theorem dX9_takeIn_1 : decode cX9_takeIn 1 = .ok (.iconst 0, 1) := by decide +kernel
theorem dX9_takeIn_2 : decode cX9_takeIn 2 = .ok (.putfield 91, 3) := by decide +kernel
theorem dX9_takeIn_5 : decode cX9_takeIn 5 = .ok (.aload_n 0, 1) := by decide +kernel
theorem dX9_takeIn_6 : decode cX9_takeIn 6 = .ok (.iload_n 1, 1) := by decide +kernel
theorem dX9_takeIn_7 : decode cX9_takeIn 7 = .ok (.invokevirtual 147, 3) := by decide +kernel
theorem dX9_takeIn_10 : decode cX9_takeIn 10 = .ok (.ifCond .ne 9, 3) := by decide +kernel
theorem dX9_takeIn_13 : decode cX9_takeIn 13 = .ok (.aload_n 0, 1) := by decide +kernel
theorem dX9_takeIn_14 : decode cX9_takeIn 14 = .ok (.iconst 1, 1) := by decide +kernel
theorem dX9_takeIn_15 : decode cX9_takeIn 15 = .ok (.invokevirtual 113, 3) := by decide +kernel
theorem dX9_takeIn_18 : decode cX9_takeIn 18 = .ok (.ireturn, 1) := by decide +kernel
theorem dX9_takeIn_19 : decode cX9_takeIn 19 = .ok (.aload_n 0, 1) := by decide +kernel
theorem dX9_takeIn_20 : decode cX9_takeIn 20 = .ok (.getfield 107, 3) := by decide +kernel
theorem dX9_takeIn_23 : decode cX9_takeIn 23 = .ok (.bipush 20, 2) := by decide +kernel
theorem dX9_takeIn_25 : decode cX9_takeIn 25 = .ok (.if_icmp .ne 9, 3) := by decide +kernel
theorem dX9_takeIn_28 : decode cX9_takeIn 28 = .ok (.aload_n 0, 1) := by decide +kernel
theorem dX9_takeIn_29 : decode cX9_takeIn 29 = .ok (.iconst 2, 1) := by decide +kernel
theorem dX9_takeIn_30 : decode cX9_takeIn 30 = .ok (.invokevirtual 113, 3) := by decide +kernel
theorem dX9_takeIn_33 : decode cX9_takeIn 33 = .ok (.ireturn, 1) := by decide +kernel
theorem dX9_takeIn_34 : decode cX9_takeIn 34 = .ok (.aload_n 0, 1) := by decide +kernel
theorem dX9_takeIn_35 : decode cX9_takeIn 35 = .ok (.getfield 46, 3) := by decide +kernel
theorem dX9_takeIn_38 : decode cX9_takeIn 38 = .ok (.aload_n 0, 1) := by decide +kernel
theorem dX9_takeIn_39 : decode cX9_takeIn 39 = .ok (.getfield 107, 3) := by decide +kernel
theorem dX9_takeIn_42 : decode cX9_takeIn 42 = .ok (.iload_n 1, 1) := by decide +kernel
theorem dX9_takeIn_43 : decode cX9_takeIn 43 = .ok (.iastore, 1) := by decide +kernel
theorem dX9_takeIn_44 : decode cX9_takeIn 44 = .ok (.aload_n 0, 1) := by decide +kernel
theorem dX9_takeIn_45 : decode cX9_takeIn 45 = .ok (.getfield 49, 3) := by decide +kernel
theorem dX9_takeIn_48 : decode cX9_takeIn 48 = .ok (.aload_n 0, 1) := by decide +kernel
theorem dX9_takeIn_49 : decode cX9_takeIn 49 = .ok (.getfield 107, 3) := by decide +kernel
theorem dX9_takeIn_52 : decode cX9_takeIn 52 = .ok (.iconst (-1), 1) := by decide +kernel
theorem dX9_takeIn_53 : decode cX9_takeIn 53 = .ok (.iastore, 1) := by decide +kernel
theorem dX9_takeIn_54 : decode cX9_takeIn 54 = .ok (.aload_n 0, 1) := by decide +kernel
theorem dX9_takeIn_55 : decode cX9_takeIn 55 = .ok (.getfield 52, 3) := by decide +kernel
theorem dX9_takeIn_58 : decode cX9_takeIn 58 = .ok (.aload_n 0, 1) := by decide +kernel
theorem dX9_takeIn_59 : decode cX9_takeIn 59 = .ok (.getfield 107, 3) := by decide +kernel
theorem dX9_takeIn_62 : decode cX9_takeIn 62 = .ok (.sipush 1000, 3) := by decide +kernel
theorem dX9_takeIn_65 : decode cX9_takeIn 65 = .ok (.aload_n 0, 1) := by decide +kernel
theorem dX9_takeIn_66 : decode cX9_takeIn 66 = .ok (.getfield 107, 3) := by decide +kernel
theorem dX9_takeIn_69 : decode cX9_takeIn 69 = .ok (.iadd, 1) := by decide +kernel
theorem dX9_takeIn_70 : decode cX9_takeIn 70 = .ok (.iastore, 1) := by decide +kernel
theorem dX9_takeIn_71 : decode cX9_takeIn 71 = .ok (.aload_n 0, 1) := by decide +kernel
theorem dX9_takeIn_72 : decode cX9_takeIn 72 = .ok (.dup, 1) := by decide +kernel
theorem dX9_takeIn_73 : decode cX9_takeIn 73 = .ok (.getfield 107, 3) := by decide +kernel
theorem dX9_takeIn_76 : decode cX9_takeIn 76 = .ok (.iconst 1, 1) := by decide +kernel
theorem dX9_takeIn_77 : decode cX9_takeIn 77 = .ok (.iadd, 1) := by decide +kernel
theorem dX9_takeIn_78 : decode cX9_takeIn 78 = .ok (.putfield 107, 3) := by decide +kernel
theorem dX9_takeIn_81 : decode cX9_takeIn 81 = .ok (.aload_n 0, 1) := by decide +kernel
theorem dX9_takeIn_82 : decode cX9_takeIn 82 = .ok (.getfield 107, 3) := by decide +kernel
theorem dX9_takeIn_85 : decode cX9_takeIn 85 = .ok (.iconst 1, 1) := by decide +kernel
theorem dX9_takeIn_86 : decode cX9_takeIn 86 = .ok (.isub, 1) := by decide +kernel
theorem dX9_takeIn_87 : decode cX9_takeIn 87 = .ok (.ireturn, 1) := by decide +kernel
theorem dX9_add_0 : decode cX9_add 0 = .ok (.iconst 4, 1) := by decide +kernel
theorem dX9_add_1 : decode cX9_add 1 = .ok (.newarray .int, 2) := by decide +kernel
theorem dX9_add_3 : decode cX9_add 3 = .ok (.dup, 1) := by decide +kernel
theorem dX9_add_4 : decode cX9_add 4 = .ok (.iconst 0, 1) := by decide +kernel
theorem dX9_add_5 : decode cX9_add 5 = .ok (.aload_n 0, 1) := by decide +kernel
theorem dX9_add_6 : decode cX9_add 6 = .ok (.getfield 75, 3) := by decide +kernel
theorem dX9_add_9 : decode cX9_add 9 = .ok (.getfield 219, 3) := by decide +kernel
theorem dX9_add_12 : decode cX9_add 12 = .ok (.iastore, 1) := by decide +kernel
theorem dX9_add_13 : decode cX9_add 13 = .ok (.dup, 1) := by decide +kernel
theorem dX9_add_14 : decode cX9_add 14 = .ok (.iconst 1, 1) := by decide +kernel
theorem dX9_add_15 : decode cX9_add 15 = .ok (.iload_n 2, 1) := by decide +kernel
theorem dX9_add_16 : decode cX9_add 16 = .ok (.iastore, 1) := by decide +kernel
theorem dX9_add_17 : decode cX9_add 17 = .ok (.dup, 1) := by decide +kernel
theorem dX9_add_18 : decode cX9_add 18 = .ok (.iconst 2, 1) := by decide +kernel
theorem dX9_add_19 : decode cX9_add 19 = .ok (.iload_n 3, 1) := by decide +kernel
theorem dX9_add_20 : decode cX9_add 20 = .ok (.iastore, 1) := by decide +kernel
theorem dX9_add_21 : decode cX9_add 21 = .ok (.dup, 1) := by decide +kernel
theorem dX9_add_22 : decode cX9_add 22 = .ok (.iconst 3, 1) := by decide +kernel
theorem dX9_add_23 : decode cX9_add 23 = .ok (.iload 4, 2) := by decide +kernel
theorem dX9_add_25 : decode cX9_add 25 = .ok (.iastore, 1) := by decide +kernel
theorem dX9_add_26 : decode cX9_add 26 = .ok (.astore 5, 2) := by decide +kernel
theorem dX9_add_28 : decode cX9_add 28 = .ok (.aload 5, 2) := by decide +kernel
theorem dX9_add_30 : decode cX9_add 30 = .ok (.iconst 0, 1) := by decide +kernel
theorem dX9_add_31 : decode cX9_add 31 = .ok (.aload_n 0, 1) := by decide +kernel
theorem dX9_add_32 : decode cX9_add 32 = .ok (.getfield 58, 3) := by decide +kernel
theorem dX9_add_35 : decode cX9_add 35 = .ok (.iconst 4, 1) := by decide +kernel
theorem dX9_add_36 : decode cX9_add 36 = .ok (.bipush 12, 2) := by decide +kernel
theorem dX9_add_38 : decode cX9_add 38 = .ok (.iload_n 1, 1) := by decide +kernel
theorem dX9_add_39 : decode cX9_add 39 = .ok (.imul, 1) := by decide +kernel
theorem dX9_add_40 : decode cX9_add 40 = .ok (.aload_n 0, 1) := by decide +kernel
theorem dX9_add_41 : decode cX9_add 41 = .ok (.getfield 55, 3) := by decide +kernel
theorem dX9_add_44 : decode cX9_add 44 = .ok (.iload_n 1, 1) := by decide +kernel
theorem dX9_add_45 : decode cX9_add 45 = .ok (.iaload, 1) := by decide +kernel
theorem dX9_add_46 : decode cX9_add 46 = .ok (.iadd, 1) := by decide +kernel
theorem dX9_add_47 : decode cX9_add 47 = .ok (.imul, 1) := by decide +kernel
theorem dX9_add_48 : decode cX9_add 48 = .ok (.iconst 4, 1) := by decide +kernel
theorem dX9_add_49 : decode cX9_add 49 = .ok (.invokestatic 222, 3) := by decide +kernel
theorem dX9_add_52 : decode cX9_add 52 = .ok (.aload_n 0, 1) := by decide +kernel
theorem dX9_add_53 : decode cX9_add 53 = .ok (.getfield 55, 3) := by decide +kernel
theorem dX9_add_56 : decode cX9_add 56 = .ok (.iload_n 1, 1) := by decide +kernel
theorem dX9_add_57 : decode cX9_add 57 = .ok (.dup2, 1) := by decide +kernel
theorem dX9_add_58 : decode cX9_add 58 = .ok (.iaload, 1) := by decide +kernel
theorem dX9_add_59 : decode cX9_add 59 = .ok (.iconst 1, 1) := by decide +kernel
theorem dX9_add_60 : decode cX9_add 60 = .ok (.iadd, 1) := by decide +kernel
theorem dX9_add_61 : decode cX9_add 61 = .ok (.iastore, 1) := by decide +kernel
theorem dX9_add_62 : decode cX9_add 62 = .ok (.aload_n 0, 1) := by decide +kernel
theorem dX9_add_63 : decode cX9_add 63 = .ok (.getfield 49, 3) := by decide +kernel
theorem dX9_add_66 : decode cX9_add 66 = .ok (.iload_n 1, 1) := by decide +kernel
theorem dX9_add_67 : decode cX9_add 67 = .ok (.iload_n 3, 1) := by decide +kernel
theorem dX9_add_68 : decode cX9_add 68 = .ok (.iastore, 1) := by decide +kernel
theorem dX9_add_69 : decode cX9_add 69 = .ok (.aload_n 0, 1) := by decide +kernel
theorem dX9_add_70 : decode cX9_add 70 = .ok (.getfield 55, 3) := by decide +kernel
theorem dX9_add_73 : decode cX9_add 73 = .ok (.iload_n 1, 1) := by decide +kernel
theorem dX9_add_74 : decode cX9_add 74 = .ok (.iaload, 1) := by decide +kernel
theorem dX9_add_75 : decode cX9_add 75 = .ok (.ireturn, 1) := by decide +kernel
theorem dX9_hand_0 : decode cX9_hand 0 = .ok (.aload_n 0, 1) := by decide +kernel
theorem dX9_hand_1 : decode cX9_hand 1 = .ok (.iconst 0, 1) := by decide +kernel
theorem dX9_hand_2 : decode cX9_hand 2 = .ok (.putfield 91, 3) := by decide +kernel
theorem dX9_hand_5 : decode cX9_hand 5 = .ok (.aload_n 0, 1) := by decide +kernel
theorem dX9_hand_6 : decode cX9_hand 6 = .ok (.iload_n 1, 1) := by decide +kernel
theorem dX9_hand_7 : decode cX9_hand 7 = .ok (.invokevirtual 228, 3) := by decide +kernel
theorem dX9_hand_10 : decode cX9_hand 10 = .ok (.ifCond .eq 16, 3) := by decide +kernel
theorem dX9_hand_13 : decode cX9_hand 13 = .ok (.iload_n 2, 1) := by decide +kernel
theorem dX9_hand_14 : decode cX9_hand 14 = .ok (.iconst (-1), 1) := by decide +kernel
theorem dX9_hand_15 : decode cX9_hand 15 = .ok (.if_icmp .eq 17, 3) := by decide +kernel
theorem dX9_hand_18 : decode cX9_hand 18 = .ok (.aload_n 0, 1) := by decide +kernel
theorem dX9_hand_19 : decode cX9_hand 19 = .ok (.iload_n 2, 1) := by decide +kernel
theorem dX9_hand_20 : decode cX9_hand 20 = .ok (.invokevirtual 176, 3) := by decide +kernel
theorem dX9_hand_23 : decode cX9_hand 23 = .ok (.ifCond .ne 9, 3) := by decide +kernel
theorem dX9_hand_26 : decode cX9_hand 26 = .ok (.aload_n 0, 1) := by decide +kernel
theorem dX9_hand_27 : decode cX9_hand 27 = .ok (.iconst 1, 1) := by decide +kernel
theorem dX9_hand_28 : decode cX9_hand 28 = .ok (.invokevirtual 113, 3) := by decide +kernel
theorem dX9_hand_31 : decode cX9_hand 31 = .ok (.ireturn, 1) := by decide +kernel
theorem dX9_hand_32 : decode cX9_hand 32 = .ok (.aload_n 0, 1) := by decide +kernel
theorem dX9_hand_33 : decode cX9_hand 33 = .ok (.getfield 49, 3) := by decide +kernel
theorem dX9_hand_36 : decode cX9_hand 36 = .ok (.iload_n 1, 1) := by decide +kernel
theorem dX9_hand_37 : decode cX9_hand 37 = .ok (.iaload, 1) := by decide +kernel
theorem dX9_hand_38 : decode cX9_hand 38 = .ok (.bipush (-2), 2) := by decide +kernel
theorem dX9_hand_40 : decode cX9_hand 40 = .ok (.if_icmp .eq 24, 3) := by decide +kernel
theorem dX9_hand_43 : decode cX9_hand 43 = .ok (.aload_n 0, 1) := by decide +kernel
theorem dX9_hand_44 : decode cX9_hand 44 = .ok (.getfield 49, 3) := by decide +kernel
theorem dX9_hand_47 : decode cX9_hand 47 = .ok (.iload_n 1, 1) := by decide +kernel
theorem dX9_hand_48 : decode cX9_hand 48 = .ok (.iaload, 1) := by decide +kernel
theorem dX9_hand_49 : decode cX9_hand 49 = .ok (.iload_n 2, 1) := by decide +kernel
theorem dX9_hand_50 : decode cX9_hand 50 = .ok (.if_icmp .eq 14, 3) := by decide +kernel
theorem dX9_hand_53 : decode cX9_hand 53 = .ok (.aload_n 0, 1) := by decide +kernel
theorem dX9_hand_54 : decode cX9_hand 54 = .ok (.getfield 55, 3) := by decide +kernel
theorem dX9_hand_57 : decode cX9_hand 57 = .ok (.iload_n 1, 1) := by decide +kernel
theorem dX9_hand_58 : decode cX9_hand 58 = .ok (.iaload, 1) := by decide +kernel
theorem dX9_hand_59 : decode cX9_hand 59 = .ok (.bipush 12, 2) := by decide +kernel
theorem dX9_hand_61 : decode cX9_hand 61 = .ok (.if_icmp .ne 9, 3) := by decide +kernel
theorem dX9_hand_64 : decode cX9_hand 64 = .ok (.aload_n 0, 1) := by decide +kernel
theorem dX9_hand_65 : decode cX9_hand 65 = .ok (.iconst 2, 1) := by decide +kernel
theorem dX9_hand_66 : decode cX9_hand 66 = .ok (.invokevirtual 113, 3) := by decide +kernel
theorem dX9_hand_69 : decode cX9_hand 69 = .ok (.ireturn, 1) := by decide +kernel
theorem dX9_hand_70 : decode cX9_hand 70 = .ok (.iload_n 2, 1) := by decide +kernel
theorem dX9_hand_71 : decode cX9_hand 71 = .ok (.iconst (-1), 1) := by decide +kernel
theorem dX9_hand_72 : decode cX9_hand 72 = .ok (.if_icmp .eq 26, 3) := by decide +kernel
theorem dX9_hand_75 : decode cX9_hand 75 = .ok (.aload_n 0, 1) := by decide +kernel
theorem dX9_hand_76 : decode cX9_hand 76 = .ok (.getfield 75, 3) := by decide +kernel
theorem dX9_hand_79 : decode cX9_hand 79 = .ok (.iload_n 2, 1) := by decide +kernel
theorem dX9_hand_80 : decode cX9_hand 80 = .ok (.aload_n 0, 1) := by decide +kernel
theorem dX9_hand_81 : decode cX9_hand 81 = .ok (.getfield 46, 3) := by decide +kernel
theorem dX9_hand_84 : decode cX9_hand 84 = .ok (.iload_n 1, 1) := by decide +kernel
theorem dX9_hand_85 : decode cX9_hand 85 = .ok (.iaload, 1) := by decide +kernel
theorem dX9_hand_86 : decode cX9_hand 86 = .ok (.invokevirtual 179, 3) := by decide +kernel
theorem dX9_hand_89 : decode cX9_hand 89 = .ok (.ifCond .ne 9, 3) := by decide +kernel
theorem dX9_hand_92 : decode cX9_hand 92 = .ok (.aload_n 0, 1) := by decide +kernel
theorem dX9_hand_93 : decode cX9_hand 93 = .ok (.iconst 2, 1) := by decide +kernel
theorem dX9_hand_94 : decode cX9_hand 94 = .ok (.invokevirtual 113, 3) := by decide +kernel
theorem dX9_hand_97 : decode cX9_hand 97 = .ok (.ireturn, 1) := by decide +kernel
theorem dX9_hand_98 : decode cX9_hand 98 = .ok (.aload_n 0, 1) := by decide +kernel
theorem dX9_hand_99 : decode cX9_hand 99 = .ok (.iload_n 1, 1) := by decide +kernel
theorem dX9_hand_100 : decode cX9_hand 100 = .ok (.aload_n 0, 1) := by decide +kernel
theorem dX9_hand_101 : decode cX9_hand 101 = .ok (.getfield 49, 3) := by decide +kernel
theorem dX9_hand_104 : decode cX9_hand 104 = .ok (.iload_n 1, 1) := by decide +kernel
theorem dX9_hand_105 : decode cX9_hand 105 = .ok (.iaload, 1) := by decide +kernel
theorem dX9_hand_106 : decode cX9_hand 106 = .ok (.iload_n 2, 1) := by decide +kernel
theorem dX9_hand_107 : decode cX9_hand 107 = .ok (.iconst 0, 1) := by decide +kernel
theorem dX9_hand_108 : decode cX9_hand 108 = .ok (.invokevirtual 231, 3) := by decide +kernel
theorem dX9_hand_111 : decode cX9_hand 111 = .ok (.ireturn, 1) := by decide +kernel
theorem dX9_unseal_0 : decode cX9_unseal 0 = .ok (.aload_n 0, 1) := by decide +kernel
theorem dX9_unseal_1 : decode cX9_unseal 1 = .ok (.iconst 0, 1) := by decide +kernel
theorem dX9_unseal_2 : decode cX9_unseal 2 = .ok (.putfield 91, 3) := by decide +kernel
theorem dX9_unseal_5 : decode cX9_unseal 5 = .ok (.aload_n 0, 1) := by decide +kernel
theorem dX9_unseal_6 : decode cX9_unseal 6 = .ok (.iload_n 1, 1) := by decide +kernel
theorem dX9_unseal_7 : decode cX9_unseal 7 = .ok (.invokevirtual 228, 3) := by decide +kernel
theorem dX9_unseal_10 : decode cX9_unseal 10 = .ok (.ifCond .ne 9, 3) := by decide +kernel
theorem dX9_unseal_13 : decode cX9_unseal 13 = .ok (.aload_n 0, 1) := by decide +kernel
theorem dX9_unseal_14 : decode cX9_unseal 14 = .ok (.iconst 1, 1) := by decide +kernel
theorem dX9_unseal_15 : decode cX9_unseal 15 = .ok (.invokevirtual 113, 3) := by decide +kernel
theorem dX9_unseal_18 : decode cX9_unseal 18 = .ok (.ireturn, 1) := by decide +kernel
theorem dX9_unseal_19 : decode cX9_unseal 19 = .ok (.aload_n 0, 1) := by decide +kernel
theorem dX9_unseal_20 : decode cX9_unseal 20 = .ok (.getfield 49, 3) := by decide +kernel
theorem dX9_unseal_23 : decode cX9_unseal 23 = .ok (.iload_n 1, 1) := by decide +kernel
theorem dX9_unseal_24 : decode cX9_unseal 24 = .ok (.iaload, 1) := by decide +kernel
theorem dX9_unseal_25 : decode cX9_unseal 25 = .ok (.ifCond .lt 14, 3) := by decide +kernel
theorem dX9_unseal_28 : decode cX9_unseal 28 = .ok (.aload_n 0, 1) := by decide +kernel
theorem dX9_unseal_29 : decode cX9_unseal 29 = .ok (.getfield 55, 3) := by decide +kernel
theorem dX9_unseal_32 : decode cX9_unseal 32 = .ok (.iload_n 1, 1) := by decide +kernel
theorem dX9_unseal_33 : decode cX9_unseal 33 = .ok (.iaload, 1) := by decide +kernel
theorem dX9_unseal_34 : decode cX9_unseal 34 = .ok (.bipush 12, 2) := by decide +kernel
theorem dX9_unseal_36 : decode cX9_unseal 36 = .ok (.if_icmp .ne 9, 3) := by decide +kernel
theorem dX9_unseal_39 : decode cX9_unseal 39 = .ok (.aload_n 0, 1) := by decide +kernel
theorem dX9_unseal_40 : decode cX9_unseal 40 = .ok (.iconst 2, 1) := by decide +kernel
theorem dX9_unseal_41 : decode cX9_unseal 41 = .ok (.invokevirtual 113, 3) := by decide +kernel
theorem dX9_unseal_44 : decode cX9_unseal 44 = .ok (.ireturn, 1) := by decide +kernel
theorem dX9_unseal_45 : decode cX9_unseal 45 = .ok (.aload_n 0, 1) := by decide +kernel
theorem dX9_unseal_46 : decode cX9_unseal 46 = .ok (.iload_n 1, 1) := by decide +kernel
theorem dX9_unseal_47 : decode cX9_unseal 47 = .ok (.aload_n 0, 1) := by decide +kernel
theorem dX9_unseal_48 : decode cX9_unseal 48 = .ok (.getfield 49, 3) := by decide +kernel
theorem dX9_unseal_51 : decode cX9_unseal 51 = .ok (.iload_n 1, 1) := by decide +kernel
theorem dX9_unseal_52 : decode cX9_unseal 52 = .ok (.iaload, 1) := by decide +kernel
theorem dX9_unseal_53 : decode cX9_unseal 53 = .ok (.aload_n 0, 1) := by decide +kernel
theorem dX9_unseal_54 : decode cX9_unseal 54 = .ok (.getfield 49, 3) := by decide +kernel
theorem dX9_unseal_57 : decode cX9_unseal 57 = .ok (.iload_n 1, 1) := by decide +kernel
theorem dX9_unseal_58 : decode cX9_unseal 58 = .ok (.iaload, 1) := by decide +kernel
theorem dX9_unseal_59 : decode cX9_unseal 59 = .ok (.iconst 2, 1) := by decide +kernel
theorem dX9_unseal_60 : decode cX9_unseal 60 = .ok (.invokevirtual 231, 3) := by decide +kernel
theorem dX9_unseal_63 : decode cX9_unseal 63 = .ok (.pop, 1) := by decide +kernel
theorem dX9_unseal_64 : decode cX9_unseal 64 = .ok (.aload_n 0, 1) := by decide +kernel
theorem dX9_unseal_65 : decode cX9_unseal 65 = .ok (.getfield 52, 3) := by decide +kernel
theorem dX9_unseal_68 : decode cX9_unseal 68 = .ok (.iload_n 1, 1) := by decide +kernel
theorem dX9_unseal_69 : decode cX9_unseal 69 = .ok (.aload_n 0, 1) := by decide +kernel
theorem dX9_unseal_70 : decode cX9_unseal 70 = .ok (.getfield 52, 3) := by decide +kernel
theorem dX9_unseal_73 : decode cX9_unseal 73 = .ok (.iload_n 1, 1) := by decide +kernel
theorem dX9_unseal_74 : decode cX9_unseal 74 = .ok (.iaload, 1) := by decide +kernel
theorem dX9_unseal_75 : decode cX9_unseal 75 = .ok (.bipush 31, 2) := by decide +kernel
theorem dX9_unseal_77 : decode cX9_unseal 77 = .ok (.imul, 1) := by decide +kernel
theorem dX9_unseal_78 : decode cX9_unseal 78 = .ok (.aload_n 0, 1) := by decide +kernel
theorem dX9_unseal_79 : decode cX9_unseal 79 = .ok (.getfield 75, 3) := by decide +kernel
theorem dX9_unseal_82 : decode cX9_unseal 82 = .ok (.getfield 219, 3) := by decide +kernel
theorem dX9_unseal_85 : decode cX9_unseal 85 = .ok (.iadd, 1) := by decide +kernel
theorem dX9_unseal_86 : decode cX9_unseal 86 = .ok (.sipush 10007, 3) := by decide +kernel
theorem dX9_unseal_89 : decode cX9_unseal 89 = .ok (.irem, 1) := by decide +kernel
theorem dX9_unseal_90 : decode cX9_unseal 90 = .ok (.iastore, 1) := by decide +kernel
theorem dX9_unseal_91 : decode cX9_unseal 91 = .ok (.aload_n 0, 1) := by decide +kernel
theorem dX9_unseal_92 : decode cX9_unseal 92 = .ok (.getfield 52, 3) := by decide +kernel
theorem dX9_unseal_95 : decode cX9_unseal 95 = .ok (.iload_n 1, 1) := by decide +kernel
theorem dX9_unseal_96 : decode cX9_unseal 96 = .ok (.iaload, 1) := by decide +kernel
theorem dX9_unseal_97 : decode cX9_unseal 97 = .ok (.ireturn, 1) := by decide +kernel
theorem dX9_lose_0 : decode cX9_lose 0 = .ok (.aload_n 0, 1) := by decide +kernel
theorem dX9_lose_1 : decode cX9_lose 1 = .ok (.iconst 0, 1) := by decide +kernel
theorem dX9_lose_2 : decode cX9_lose 2 = .ok (.putfield 91, 3) := by decide +kernel
theorem dX9_lose_5 : decode cX9_lose 5 = .ok (.aload_n 0, 1) := by decide +kernel
theorem dX9_lose_6 : decode cX9_lose 6 = .ok (.iload_n 1, 1) := by decide +kernel
theorem dX9_lose_7 : decode cX9_lose 7 = .ok (.invokevirtual 228, 3) := by decide +kernel
theorem dX9_lose_10 : decode cX9_lose 10 = .ok (.ifCond .ne 9, 3) := by decide +kernel
theorem dX9_lose_13 : decode cX9_lose 13 = .ok (.aload_n 0, 1) := by decide +kernel
theorem dX9_lose_14 : decode cX9_lose 14 = .ok (.iconst 1, 1) := by decide +kernel
theorem dX9_lose_15 : decode cX9_lose 15 = .ok (.invokevirtual 113, 3) := by decide +kernel
theorem dX9_lose_18 : decode cX9_lose 18 = .ok (.ireturn, 1) := by decide +kernel
theorem dX9_lose_19 : decode cX9_lose 19 = .ok (.aload_n 0, 1) := by decide +kernel
theorem dX9_lose_20 : decode cX9_lose 20 = .ok (.getfield 49, 3) := by decide +kernel
theorem dX9_lose_23 : decode cX9_lose 23 = .ok (.iload_n 1, 1) := by decide +kernel
theorem dX9_lose_24 : decode cX9_lose 24 = .ok (.iaload, 1) := by decide +kernel
theorem dX9_lose_25 : decode cX9_lose 25 = .ok (.istore_n 2, 1) := by decide +kernel
theorem dX9_lose_26 : decode cX9_lose 26 = .ok (.iload_n 2, 1) := by decide +kernel
theorem dX9_lose_27 : decode cX9_lose 27 = .ok (.bipush (-2), 2) := by decide +kernel
theorem dX9_lose_29 : decode cX9_lose 29 = .ok (.if_icmp .ne 9, 3) := by decide +kernel
theorem dX9_lose_32 : decode cX9_lose 32 = .ok (.aload_n 0, 1) := by decide +kernel
theorem dX9_lose_33 : decode cX9_lose 33 = .ok (.iconst 2, 1) := by decide +kernel
theorem dX9_lose_34 : decode cX9_lose 34 = .ok (.invokevirtual 113, 3) := by decide +kernel
theorem dX9_lose_37 : decode cX9_lose 37 = .ok (.ireturn, 1) := by decide +kernel
theorem dX9_lose_38 : decode cX9_lose 38 = .ok (.aload_n 0, 1) := by decide +kernel
theorem dX9_lose_39 : decode cX9_lose 39 = .ok (.getfield 49, 3) := by decide +kernel
theorem dX9_lose_42 : decode cX9_lose 42 = .ok (.iload_n 1, 1) := by decide +kernel
theorem dX9_lose_43 : decode cX9_lose 43 = .ok (.bipush (-2), 2) := by decide +kernel
theorem dX9_lose_45 : decode cX9_lose 45 = .ok (.iastore, 1) := by decide +kernel
theorem dX9_lose_46 : decode cX9_lose 46 = .ok (.iload_n 2, 1) := by decide +kernel
theorem dX9_lose_47 : decode cX9_lose 47 = .ok (.ireturn, 1) := by decide +kernel
theorem dX9_found_0 : decode cX9_found 0 = .ok (.aload_n 0, 1) := by decide +kernel
theorem dX9_found_1 : decode cX9_found 1 = .ok (.iconst 0, 1) := by decide +kernel
theorem dX9_found_2 : decode cX9_found 2 = .ok (.putfield 91, 3) := by decide +kernel
theorem dX9_found_5 : decode cX9_found 5 = .ok (.aload_n 0, 1) := by decide +kernel
theorem dX9_found_6 : decode cX9_found 6 = .ok (.iload_n 1, 1) := by decide +kernel
theorem dX9_found_7 : decode cX9_found 7 = .ok (.invokevirtual 228, 3) := by decide +kernel
theorem dX9_found_10 : decode cX9_found 10 = .ok (.ifCond .eq 16, 3) := by decide +kernel
theorem dX9_found_13 : decode cX9_found 13 = .ok (.iload_n 2, 1) := by decide +kernel
theorem dX9_found_14 : decode cX9_found 14 = .ok (.iconst (-1), 1) := by decide +kernel
theorem dX9_found_15 : decode cX9_found 15 = .ok (.if_icmp .eq 17, 3) := by decide +kernel
theorem dX9_found_18 : decode cX9_found 18 = .ok (.aload_n 0, 1) := by decide +kernel
theorem dX9_found_19 : decode cX9_found 19 = .ok (.iload_n 2, 1) := by decide +kernel
theorem dX9_found_20 : decode cX9_found 20 = .ok (.invokevirtual 176, 3) := by decide +kernel
theorem dX9_found_23 : decode cX9_found 23 = .ok (.ifCond .ne 9, 3) := by decide +kernel
theorem dX9_found_26 : decode cX9_found 26 = .ok (.aload_n 0, 1) := by decide +kernel
theorem dX9_found_27 : decode cX9_found 27 = .ok (.iconst 1, 1) := by decide +kernel
theorem dX9_found_28 : decode cX9_found 28 = .ok (.invokevirtual 113, 3) := by decide +kernel
theorem dX9_found_31 : decode cX9_found 31 = .ok (.ireturn, 1) := by decide +kernel
theorem dX9_found_32 : decode cX9_found 32 = .ok (.aload_n 0, 1) := by decide +kernel
theorem dX9_found_33 : decode cX9_found 33 = .ok (.getfield 49, 3) := by decide +kernel
theorem dX9_found_36 : decode cX9_found 36 = .ok (.iload_n 1, 1) := by decide +kernel
theorem dX9_found_37 : decode cX9_found 37 = .ok (.iaload, 1) := by decide +kernel
theorem dX9_found_38 : decode cX9_found 38 = .ok (.bipush (-2), 2) := by decide +kernel
theorem dX9_found_40 : decode cX9_found 40 = .ok (.if_icmp .ne 14, 3) := by decide +kernel
theorem dX9_found_43 : decode cX9_found 43 = .ok (.aload_n 0, 1) := by decide +kernel
theorem dX9_found_44 : decode cX9_found 44 = .ok (.getfield 55, 3) := by decide +kernel
theorem dX9_found_47 : decode cX9_found 47 = .ok (.iload_n 1, 1) := by decide +kernel
theorem dX9_found_48 : decode cX9_found 48 = .ok (.iaload, 1) := by decide +kernel
theorem dX9_found_49 : decode cX9_found 49 = .ok (.bipush 12, 2) := by decide +kernel
theorem dX9_found_51 : decode cX9_found 51 = .ok (.if_icmp .ne 9, 3) := by decide +kernel
theorem dX9_found_54 : decode cX9_found 54 = .ok (.aload_n 0, 1) := by decide +kernel
theorem dX9_found_55 : decode cX9_found 55 = .ok (.iconst 2, 1) := by decide +kernel
theorem dX9_found_56 : decode cX9_found 56 = .ok (.invokevirtual 113, 3) := by decide +kernel
theorem dX9_found_59 : decode cX9_found 59 = .ok (.ireturn, 1) := by decide +kernel
theorem dX9_found_60 : decode cX9_found 60 = .ok (.aload_n 0, 1) := by decide +kernel
theorem dX9_found_61 : decode cX9_found 61 = .ok (.iload_n 1, 1) := by decide +kernel
theorem dX9_found_62 : decode cX9_found 62 = .ok (.iconst (-1), 1) := by decide +kernel
theorem dX9_found_63 : decode cX9_found 63 = .ok (.iload_n 2, 1) := by decide +kernel
theorem dX9_found_64 : decode cX9_found 64 = .ok (.iconst 1, 1) := by decide +kernel
theorem dX9_found_65 : decode cX9_found 65 = .ok (.invokevirtual 231, 3) := by decide +kernel
theorem dX9_found_68 : decode cX9_found 68 = .ok (.ireturn, 1) := by decide +kernel
theorem dX9_linkTold_0 : decode cX9_linkTold 0 = .ok (.aload_n 0, 1) := by decide +kernel
theorem dX9_linkTold_1 : decode cX9_linkTold 1 = .ok (.getfield 58, 3) := by decide +kernel
theorem dX9_linkTold_4 : decode cX9_linkTold 4 = .ok (.iconst 4, 1) := by decide +kernel
theorem dX9_linkTold_5 : decode cX9_linkTold 5 = .ok (.bipush 12, 2) := by decide +kernel
theorem dX9_linkTold_7 : decode cX9_linkTold 7 = .ok (.iload_n 1, 1) := by decide +kernel
theorem dX9_linkTold_8 : decode cX9_linkTold 8 = .ok (.imul, 1) := by decide +kernel
theorem dX9_linkTold_9 : decode cX9_linkTold 9 = .ok (.iload_n 2, 1) := by decide +kernel
theorem dX9_linkTold_10 : decode cX9_linkTold 10 = .ok (.iadd, 1) := by decide +kernel
theorem dX9_linkTold_11 : decode cX9_linkTold 11 = .ok (.imul, 1) := by decide +kernel
theorem dX9_linkTold_12 : decode cX9_linkTold 12 = .ok (.iload_n 3, 1) := by decide +kernel
theorem dX9_linkTold_13 : decode cX9_linkTold 13 = .ok (.iadd, 1) := by decide +kernel
theorem dX9_linkTold_14 : decode cX9_linkTold 14 = .ok (.iaload, 1) := by decide +kernel
theorem dX9_linkTold_15 : decode cX9_linkTold 15 = .ok (.ireturn, 1) := by decide +kernel
theorem dX9_gaps_0 : decode cX9_gaps 0 = .ok (.iconst 0, 1) := by decide +kernel
theorem dX9_gaps_1 : decode cX9_gaps 1 = .ok (.istore_n 2, 1) := by decide +kernel
theorem dX9_gaps_2 : decode cX9_gaps 2 = .ok (.iconst 0, 1) := by decide +kernel
theorem dX9_gaps_3 : decode cX9_gaps 3 = .ok (.istore_n 3, 1) := by decide +kernel
theorem dX9_gaps_4 : decode cX9_gaps 4 = .ok (.iload_n 3, 1) := by decide +kernel
theorem dX9_gaps_5 : decode cX9_gaps 5 = .ok (.aload_n 0, 1) := by decide +kernel
theorem dX9_gaps_6 : decode cX9_gaps 6 = .ok (.getfield 55, 3) := by decide +kernel
theorem dX9_gaps_9 : decode cX9_gaps 9 = .ok (.iload_n 1, 1) := by decide +kernel
theorem dX9_gaps_10 : decode cX9_gaps 10 = .ok (.iaload, 1) := by decide +kernel
theorem dX9_gaps_11 : decode cX9_gaps 11 = .ok (.if_icmp .ge 28, 3) := by decide +kernel
theorem dX9_gaps_14 : decode cX9_gaps 14 = .ok (.iload_n 2, 1) := by decide +kernel
theorem dX9_gaps_15 : decode cX9_gaps 15 = .ok (.aload_n 0, 1) := by decide +kernel
theorem dX9_gaps_16 : decode cX9_gaps 16 = .ok (.iload_n 1, 1) := by decide +kernel
theorem dX9_gaps_17 : decode cX9_gaps 17 = .ok (.iload_n 3, 1) := by decide +kernel
theorem dX9_gaps_18 : decode cX9_gaps 18 = .ok (.iconst 3, 1) := by decide +kernel
theorem dX9_gaps_19 : decode cX9_gaps 19 = .ok (.invokevirtual 235, 3) := by decide +kernel
theorem dX9_gaps_22 : decode cX9_gaps 22 = .ok (.iconst 1, 1) := by decide +kernel
theorem dX9_gaps_23 : decode cX9_gaps 23 = .ok (.if_icmp .ne 7, 3) := by decide +kernel
theorem dX9_gaps_26 : decode cX9_gaps 26 = .ok (.iconst 1, 1) := by decide +kernel
theorem dX9_gaps_27 : decode cX9_gaps 27 = .ok (.goto 4, 3) := by decide +kernel
theorem dX9_gaps_30 : decode cX9_gaps 30 = .ok (.iconst 0, 1) := by decide +kernel
theorem dX9_gaps_31 : decode cX9_gaps 31 = .ok (.iadd, 1) := by decide +kernel
theorem dX9_gaps_32 : decode cX9_gaps 32 = .ok (.istore_n 2, 1) := by decide +kernel
theorem dX9_gaps_33 : decode cX9_gaps 33 = .ok (.iinc 3 1, 3) := by decide +kernel
theorem dX9_gaps_36 : decode cX9_gaps 36 = .ok (.goto (-32), 3) := by decide +kernel
theorem dX9_gaps_39 : decode cX9_gaps 39 = .ok (.iload_n 2, 1) := by decide +kernel
theorem dX9_gaps_40 : decode cX9_gaps 40 = .ok (.ireturn, 1) := by decide +kernel
theorem dX9_isGood_0 : decode cX9_isGood 0 = .ok (.aload_n 0, 1) := by decide +kernel
theorem dX9_isGood_1 : decode cX9_isGood 1 = .ok (.getfield 49, 3) := by decide +kernel
theorem dX9_isGood_4 : decode cX9_isGood 4 = .ok (.iload_n 1, 1) := by decide +kernel
theorem dX9_isGood_5 : decode cX9_isGood 5 = .ok (.iaload, 1) := by decide +kernel
theorem dX9_isGood_6 : decode cX9_isGood 6 = .ok (.istore_n 2, 1) := by decide +kernel
theorem dX9_isGood_7 : decode cX9_isGood 7 = .ok (.aload_n 0, 1) := by decide +kernel
theorem dX9_isGood_8 : decode cX9_isGood 8 = .ok (.iload_n 1, 1) := by decide +kernel
theorem dX9_isGood_9 : decode cX9_isGood 9 = .ok (.invokevirtual 238, 3) := by decide +kernel
theorem dX9_isGood_12 : decode cX9_isGood 12 = .ok (.ifCond .ne 37, 3) := by decide +kernel
theorem dX9_isGood_15 : decode cX9_isGood 15 = .ok (.iload_n 2, 1) := by decide +kernel
theorem dX9_isGood_16 : decode cX9_isGood 16 = .ok (.bipush (-2), 2) := by decide +kernel
theorem dX9_isGood_18 : decode cX9_isGood 18 = .ok (.if_icmp .eq 31, 3) := by decide +kernel
theorem dX9_isGood_21 : decode cX9_isGood 21 = .ok (.iload_n 2, 1) := by decide +kernel
theorem dX9_isGood_22 : decode cX9_isGood 22 = .ok (.iconst (-1), 1) := by decide +kernel
theorem dX9_isGood_23 : decode cX9_isGood 23 = .ok (.if_icmp .eq 22, 3) := by decide +kernel
theorem dX9_isGood_26 : decode cX9_isGood 26 = .ok (.aload_n 0, 1) := by decide +kernel
theorem dX9_isGood_27 : decode cX9_isGood 27 = .ok (.getfield 23, 3) := by decide +kernel
theorem dX9_isGood_30 : decode cX9_isGood 30 = .ok (.iload_n 2, 1) := by decide +kernel
theorem dX9_isGood_31 : decode cX9_isGood 31 = .ok (.iaload, 1) := by decide +kernel
theorem dX9_isGood_32 : decode cX9_isGood 32 = .ok (.iconst 1, 1) := by decide +kernel
theorem dX9_isGood_33 : decode cX9_isGood 33 = .ok (.if_icmp .eq 12, 3) := by decide +kernel
theorem dX9_isGood_36 : decode cX9_isGood 36 = .ok (.aload_n 0, 1) := by decide +kernel
theorem dX9_isGood_37 : decode cX9_isGood 37 = .ok (.getfield 23, 3) := by decide +kernel
theorem dX9_isGood_40 : decode cX9_isGood 40 = .ok (.iload_n 2, 1) := by decide +kernel
theorem dX9_isGood_41 : decode cX9_isGood 41 = .ok (.iaload, 1) := by decide +kernel
theorem dX9_isGood_42 : decode cX9_isGood 42 = .ok (.ifCond .ne 7, 3) := by decide +kernel
theorem dX9_isGood_45 : decode cX9_isGood 45 = .ok (.iconst 1, 1) := by decide +kernel
theorem dX9_isGood_46 : decode cX9_isGood 46 = .ok (.goto 4, 3) := by decide +kernel
theorem dX9_isGood_49 : decode cX9_isGood 49 = .ok (.iconst 0, 1) := by decide +kernel
theorem dX9_isGood_50 : decode cX9_isGood 50 = .ok (.istore_n 3, 1) := by decide +kernel
theorem dX9_isGood_51 : decode cX9_isGood 51 = .ok (.iconst 0, 1) := by decide +kernel
theorem dX9_isGood_52 : decode cX9_isGood 52 = .ok (.istore 4, 2) := by decide +kernel
theorem dX9_isGood_54 : decode cX9_isGood 54 = .ok (.iload 4, 2) := by decide +kernel
theorem dX9_isGood_56 : decode cX9_isGood 56 = .ok (.aload_n 0, 1) := by decide +kernel
theorem dX9_isGood_57 : decode cX9_isGood 57 = .ok (.getfield 55, 3) := by decide +kernel
theorem dX9_isGood_60 : decode cX9_isGood 60 = .ok (.iload_n 1, 1) := by decide +kernel
theorem dX9_isGood_61 : decode cX9_isGood 61 = .ok (.iaload, 1) := by decide +kernel
theorem dX9_isGood_62 : decode cX9_isGood 62 = .ok (.if_icmp .ge 69, 3) := by decide +kernel
theorem dX9_isGood_65 : decode cX9_isGood 65 = .ok (.iload_n 3, 1) := by decide +kernel
theorem dX9_isGood_66 : decode cX9_isGood 66 = .ok (.ifCond .eq 65, 3) := by decide +kernel
theorem dX9_isGood_69 : decode cX9_isGood 69 = .ok (.aload_n 0, 1) := by decide +kernel
theorem dX9_isGood_70 : decode cX9_isGood 70 = .ok (.iload_n 1, 1) := by decide +kernel
theorem dX9_isGood_71 : decode cX9_isGood 71 = .ok (.iload 4, 2) := by decide +kernel
theorem dX9_isGood_73 : decode cX9_isGood 73 = .ok (.iconst 2, 1) := by decide +kernel
theorem dX9_isGood_74 : decode cX9_isGood 74 = .ok (.invokevirtual 235, 3) := by decide +kernel
theorem dX9_isGood_77 : decode cX9_isGood 77 = .ok (.istore 5, 2) := by decide +kernel
theorem dX9_isGood_79 : decode cX9_isGood 79 = .ok (.iload 5, 2) := by decide +kernel
theorem dX9_isGood_81 : decode cX9_isGood 81 = .ok (.iconst (-1), 1) := by decide +kernel
theorem dX9_isGood_82 : decode cX9_isGood 82 = .ok (.if_icmp .eq 37, 3) := by decide +kernel
theorem dX9_isGood_85 : decode cX9_isGood 85 = .ok (.aload_n 0, 1) := by decide +kernel
theorem dX9_isGood_86 : decode cX9_isGood 86 = .ok (.getfield 23, 3) := by decide +kernel
theorem dX9_isGood_89 : decode cX9_isGood 89 = .ok (.iload 5, 2) := by decide +kernel
theorem dX9_isGood_91 : decode cX9_isGood 91 = .ok (.iaload, 1) := by decide +kernel
theorem dX9_isGood_92 : decode cX9_isGood 92 = .ok (.iconst 3, 1) := by decide +kernel
theorem dX9_isGood_93 : decode cX9_isGood 93 = .ok (.if_icmp .eq 30, 3) := by decide +kernel
theorem dX9_isGood_96 : decode cX9_isGood 96 = .ok (.aload_n 0, 1) := by decide +kernel
theorem dX9_isGood_97 : decode cX9_isGood 97 = .ok (.iload_n 1, 1) := by decide +kernel
theorem dX9_isGood_98 : decode cX9_isGood 98 = .ok (.iload 4, 2) := by decide +kernel
theorem dX9_isGood_100 : decode cX9_isGood 100 = .ok (.iconst 3, 1) := by decide +kernel
theorem dX9_isGood_101 : decode cX9_isGood 101 = .ok (.invokevirtual 235, 3) := by decide +kernel
theorem dX9_isGood_104 : decode cX9_isGood 104 = .ok (.iconst 2, 1) := by decide +kernel
theorem dX9_isGood_105 : decode cX9_isGood 105 = .ok (.if_icmp .ne 14, 3) := by decide +kernel
theorem dX9_isGood_108 : decode cX9_isGood 108 = .ok (.aload_n 0, 1) := by decide +kernel
theorem dX9_isGood_109 : decode cX9_isGood 109 = .ok (.getfield 23, 3) := by decide +kernel
theorem dX9_isGood_112 : decode cX9_isGood 112 = .ok (.iload 5, 2) := by decide +kernel
theorem dX9_isGood_114 : decode cX9_isGood 114 = .ok (.iaload, 1) := by decide +kernel
theorem dX9_isGood_115 : decode cX9_isGood 115 = .ok (.iconst 1, 1) := by decide +kernel
theorem dX9_isGood_116 : decode cX9_isGood 116 = .ok (.if_icmp .ne 7, 3) := by decide +kernel
theorem dX9_isGood_119 : decode cX9_isGood 119 = .ok (.iconst 1, 1) := by decide +kernel
theorem dX9_isGood_120 : decode cX9_isGood 120 = .ok (.goto 4, 3) := by decide +kernel
theorem dX9_isGood_123 : decode cX9_isGood 123 = .ok (.iconst 0, 1) := by decide +kernel
theorem dX9_isGood_124 : decode cX9_isGood 124 = .ok (.istore_n 3, 1) := by decide +kernel
theorem dX9_isGood_125 : decode cX9_isGood 125 = .ok (.iinc 4 1, 3) := by decide +kernel
theorem dX9_isGood_128 : decode cX9_isGood 128 = .ok (.goto (-74), 3) := by decide +kernel
theorem dX9_isGood_131 : decode cX9_isGood 131 = .ok (.iload_n 3, 1) := by decide +kernel
theorem dX9_isGood_132 : decode cX9_isGood 132 = .ok (.ireturn, 1) := by decide +kernel
theorem dX9_exhibitTold_0 : decode cX9_exhibitTold 0 = .ok (.iconst 0, 1) := by decide +kernel
theorem dX9_exhibitTold_1 : decode cX9_exhibitTold 1 = .ok (.istore_n 3, 1) := by decide +kernel
theorem dX9_exhibitTold_2 : decode cX9_exhibitTold 2 = .ok (.iconst 0, 1) := by decide +kernel
theorem dX9_exhibitTold_3 : decode cX9_exhibitTold 3 = .ok (.istore 4, 2) := by decide +kernel
theorem dX9_exhibitTold_5 : decode cX9_exhibitTold 5 = .ok (.iload 4, 2) := by decide +kernel
theorem dX9_exhibitTold_7 : decode cX9_exhibitTold 7 = .ok (.aload_n 0, 1) := by decide +kernel
theorem dX9_exhibitTold_8 : decode cX9_exhibitTold 8 = .ok (.getfield 104, 3) := by decide +kernel
theorem dX9_exhibitTold_11 : decode cX9_exhibitTold 11 = .ok (.if_icmp .ge 23, 3) := by decide +kernel
theorem dX9_exhibitTold_14 : decode cX9_exhibitTold 14 = .ok (.iload_n 3, 1) := by decide +kernel
theorem dX9_exhibitTold_15 : decode cX9_exhibitTold 15 = .ok (.aload_n 0, 1) := by decide +kernel
theorem dX9_exhibitTold_16 : decode cX9_exhibitTold 16 = .ok (.getfield 43, 3) := by decide +kernel
theorem dX9_exhibitTold_19 : decode cX9_exhibitTold 19 = .ok (.iload 4, 2) := by decide +kernel
theorem dX9_exhibitTold_21 : decode cX9_exhibitTold 21 = .ok (.iaload, 1) := by decide +kernel
theorem dX9_exhibitTold_22 : decode cX9_exhibitTold 22 = .ok (.iload_n 1, 1) := by decide +kernel
theorem dX9_exhibitTold_23 : decode cX9_exhibitTold 23 = .ok (.ishr, 1) := by decide +kernel
theorem dX9_exhibitTold_24 : decode cX9_exhibitTold 24 = .ok (.iconst 1, 1) := by decide +kernel
theorem dX9_exhibitTold_25 : decode cX9_exhibitTold 25 = .ok (.iand, 1) := by decide +kernel
theorem dX9_exhibitTold_26 : decode cX9_exhibitTold 26 = .ok (.iadd, 1) := by decide +kernel
theorem dX9_exhibitTold_27 : decode cX9_exhibitTold 27 = .ok (.istore_n 3, 1) := by decide +kernel
theorem dX9_exhibitTold_28 : decode cX9_exhibitTold 28 = .ok (.iinc 4 1, 3) := by decide +kernel
theorem dX9_exhibitTold_31 : decode cX9_exhibitTold 31 = .ok (.goto (-26), 3) := by decide +kernel
theorem dX9_exhibitTold_34 : decode cX9_exhibitTold 34 = .ok (.bipush 7, 2) := by decide +kernel
theorem dX9_exhibitTold_36 : decode cX9_exhibitTold 36 = .ok (.newarray .int, 2) := by decide +kernel
theorem dX9_exhibitTold_38 : decode cX9_exhibitTold 38 = .ok (.dup, 1) := by decide +kernel
theorem dX9_exhibitTold_39 : decode cX9_exhibitTold 39 = .ok (.iconst 0, 1) := by decide +kernel
theorem dX9_exhibitTold_40 : decode cX9_exhibitTold 40 = .ok (.aload_n 0, 1) := by decide +kernel
theorem dX9_exhibitTold_41 : decode cX9_exhibitTold 41 = .ok (.getfield 46, 3) := by decide +kernel
theorem dX9_exhibitTold_44 : decode cX9_exhibitTold 44 = .ok (.iload_n 1, 1) := by decide +kernel
theorem dX9_exhibitTold_45 : decode cX9_exhibitTold 45 = .ok (.iaload, 1) := by decide +kernel
theorem dX9_exhibitTold_46 : decode cX9_exhibitTold 46 = .ok (.iastore, 1) := by decide +kernel
theorem dX9_exhibitTold_47 : decode cX9_exhibitTold 47 = .ok (.dup, 1) := by decide +kernel
theorem dX9_exhibitTold_48 : decode cX9_exhibitTold 48 = .ok (.iconst 1, 1) := by decide +kernel
theorem dX9_exhibitTold_49 : decode cX9_exhibitTold 49 = .ok (.aload_n 0, 1) := by decide +kernel
theorem dX9_exhibitTold_50 : decode cX9_exhibitTold 50 = .ok (.getfield 49, 3) := by decide +kernel
theorem dX9_exhibitTold_53 : decode cX9_exhibitTold 53 = .ok (.iload_n 1, 1) := by decide +kernel
theorem dX9_exhibitTold_54 : decode cX9_exhibitTold 54 = .ok (.iaload, 1) := by decide +kernel
theorem dX9_exhibitTold_55 : decode cX9_exhibitTold 55 = .ok (.iastore, 1) := by decide +kernel
theorem dX9_exhibitTold_56 : decode cX9_exhibitTold 56 = .ok (.dup, 1) := by decide +kernel
theorem dX9_exhibitTold_57 : decode cX9_exhibitTold 57 = .ok (.iconst 2, 1) := by decide +kernel
theorem dX9_exhibitTold_58 : decode cX9_exhibitTold 58 = .ok (.aload_n 0, 1) := by decide +kernel
theorem dX9_exhibitTold_59 : decode cX9_exhibitTold 59 = .ok (.getfield 52, 3) := by decide +kernel
theorem dX9_exhibitTold_62 : decode cX9_exhibitTold 62 = .ok (.iload_n 1, 1) := by decide +kernel
theorem dX9_exhibitTold_63 : decode cX9_exhibitTold 63 = .ok (.iaload, 1) := by decide +kernel
theorem dX9_exhibitTold_64 : decode cX9_exhibitTold 64 = .ok (.iastore, 1) := by decide +kernel
theorem dX9_exhibitTold_65 : decode cX9_exhibitTold 65 = .ok (.dup, 1) := by decide +kernel
theorem dX9_exhibitTold_66 : decode cX9_exhibitTold 66 = .ok (.iconst 3, 1) := by decide +kernel
theorem dX9_exhibitTold_67 : decode cX9_exhibitTold 67 = .ok (.aload_n 0, 1) := by decide +kernel
theorem dX9_exhibitTold_68 : decode cX9_exhibitTold 68 = .ok (.getfield 55, 3) := by decide +kernel
theorem dX9_exhibitTold_71 : decode cX9_exhibitTold 71 = .ok (.iload_n 1, 1) := by decide +kernel
theorem dX9_exhibitTold_72 : decode cX9_exhibitTold 72 = .ok (.iaload, 1) := by decide +kernel
theorem dX9_exhibitTold_73 : decode cX9_exhibitTold 73 = .ok (.iastore, 1) := by decide +kernel
theorem dX9_exhibitTold_74 : decode cX9_exhibitTold 74 = .ok (.dup, 1) := by decide +kernel
theorem dX9_exhibitTold_75 : decode cX9_exhibitTold 75 = .ok (.iconst 4, 1) := by decide +kernel
theorem dX9_exhibitTold_76 : decode cX9_exhibitTold 76 = .ok (.aload_n 0, 1) := by decide +kernel
theorem dX9_exhibitTold_77 : decode cX9_exhibitTold 77 = .ok (.iload_n 1, 1) := by decide +kernel
theorem dX9_exhibitTold_78 : decode cX9_exhibitTold 78 = .ok (.invokevirtual 238, 3) := by decide +kernel
theorem dX9_exhibitTold_81 : decode cX9_exhibitTold 81 = .ok (.iastore, 1) := by decide +kernel
theorem dX9_exhibitTold_82 : decode cX9_exhibitTold 82 = .ok (.dup, 1) := by decide +kernel
theorem dX9_exhibitTold_83 : decode cX9_exhibitTold 83 = .ok (.iconst 5, 1) := by decide +kernel
theorem dX9_exhibitTold_84 : decode cX9_exhibitTold 84 = .ok (.aload_n 0, 1) := by decide +kernel
theorem dX9_exhibitTold_85 : decode cX9_exhibitTold 85 = .ok (.iload_n 1, 1) := by decide +kernel
theorem dX9_exhibitTold_86 : decode cX9_exhibitTold 86 = .ok (.invokevirtual 194, 3) := by decide +kernel
theorem dX9_exhibitTold_89 : decode cX9_exhibitTold 89 = .ok (.ifCond .eq 7, 3) := by decide +kernel
theorem dX9_exhibitTold_92 : decode cX9_exhibitTold 92 = .ok (.iconst 1, 1) := by decide +kernel
theorem dX9_exhibitTold_93 : decode cX9_exhibitTold 93 = .ok (.goto 4, 3) := by decide +kernel
theorem dX9_exhibitTold_96 : decode cX9_exhibitTold 96 = .ok (.iconst 0, 1) := by decide +kernel
theorem dX9_exhibitTold_97 : decode cX9_exhibitTold 97 = .ok (.iastore, 1) := by decide +kernel
theorem dX9_exhibitTold_98 : decode cX9_exhibitTold 98 = .ok (.dup, 1) := by decide +kernel
theorem dX9_exhibitTold_99 : decode cX9_exhibitTold 99 = .ok (.bipush 6, 2) := by decide +kernel
theorem dX9_exhibitTold_101 : decode cX9_exhibitTold 101 = .ok (.iload_n 3, 1) := by decide +kernel
theorem dX9_exhibitTold_102 : decode cX9_exhibitTold 102 = .ok (.iastore, 1) := by decide +kernel
theorem dX9_exhibitTold_103 : decode cX9_exhibitTold 103 = .ok (.astore 4, 2) := by decide +kernel
theorem dX9_exhibitTold_105 : decode cX9_exhibitTold 105 = .ok (.aload 4, 2) := by decide +kernel
theorem dX9_exhibitTold_107 : decode cX9_exhibitTold 107 = .ok (.iload_n 2, 1) := by decide +kernel
theorem dX9_exhibitTold_108 : decode cX9_exhibitTold 108 = .ok (.iaload, 1) := by decide +kernel
theorem dX9_exhibitTold_109 : decode cX9_exhibitTold 109 = .ok (.ireturn, 1) := by decide +kernel
theorem dX9_exhibit_0 : decode cX9_exhibit 0 = .ok (.aload_n 0, 1) := by decide +kernel
theorem dX9_exhibit_1 : decode cX9_exhibit 1 = .ok (.iconst 0, 1) := by decide +kernel
theorem dX9_exhibit_2 : decode cX9_exhibit 2 = .ok (.putfield 91, 3) := by decide +kernel
theorem dX9_exhibit_5 : decode cX9_exhibit 5 = .ok (.aload_n 0, 1) := by decide +kernel
theorem dX9_exhibit_6 : decode cX9_exhibit 6 = .ok (.iload_n 1, 1) := by decide +kernel
theorem dX9_exhibit_7 : decode cX9_exhibit 7 = .ok (.invokevirtual 228, 3) := by decide +kernel
theorem dX9_exhibit_10 : decode cX9_exhibit 10 = .ok (.ifCond .eq 22, 3) := by decide +kernel
theorem dX9_exhibit_13 : decode cX9_exhibit 13 = .ok (.iload_n 2, 1) := by decide +kernel
theorem dX9_exhibit_14 : decode cX9_exhibit 14 = .ok (.iconst 0, 1) := by decide +kernel
theorem dX9_exhibit_15 : decode cX9_exhibit 15 = .ok (.bipush 6, 2) := by decide +kernel
theorem dX9_exhibit_17 : decode cX9_exhibit 17 = .ok (.invokestatic 97, 3) := by decide +kernel
theorem dX9_exhibit_20 : decode cX9_exhibit 20 = .ok (.ifCond .eq 12, 3) := by decide +kernel
theorem dX9_exhibit_23 : decode cX9_exhibit 23 = .ok (.aload_n 0, 1) := by decide +kernel
theorem dX9_exhibit_24 : decode cX9_exhibit 24 = .ok (.iload_n 1, 1) := by decide +kernel
theorem dX9_exhibit_25 : decode cX9_exhibit 25 = .ok (.iload_n 2, 1) := by decide +kernel
theorem dX9_exhibit_26 : decode cX9_exhibit 26 = .ok (.invokevirtual 241, 3) := by decide +kernel
theorem dX9_exhibit_29 : decode cX9_exhibit 29 = .ok (.goto 8, 3) := by decide +kernel
theorem dX9_exhibit_32 : decode cX9_exhibit 32 = .ok (.aload_n 0, 1) := by decide +kernel
theorem dX9_exhibit_33 : decode cX9_exhibit 33 = .ok (.iconst 1, 1) := by decide +kernel
theorem dX9_exhibit_34 : decode cX9_exhibit 34 = .ok (.invokevirtual 113, 3) := by decide +kernel
theorem dX9_exhibit_37 : decode cX9_exhibit 37 = .ok (.ireturn, 1) := by decide +kernel
theorem dX9_link_0 : decode cX9_link 0 = .ok (.aload_n 0, 1) := by decide +kernel
theorem dX9_link_1 : decode cX9_link 1 = .ok (.iconst 0, 1) := by decide +kernel
theorem dX9_link_2 : decode cX9_link 2 = .ok (.putfield 91, 3) := by decide +kernel
theorem dX9_link_5 : decode cX9_link 5 = .ok (.aload_n 0, 1) := by decide +kernel
theorem dX9_link_6 : decode cX9_link 6 = .ok (.iload_n 1, 1) := by decide +kernel
theorem dX9_link_7 : decode cX9_link 7 = .ok (.invokevirtual 228, 3) := by decide +kernel
theorem dX9_link_10 : decode cX9_link 10 = .ok (.ifCond .eq 38, 3) := by decide +kernel
theorem dX9_link_13 : decode cX9_link 13 = .ok (.iload_n 2, 1) := by decide +kernel
theorem dX9_link_14 : decode cX9_link 14 = .ok (.iconst 0, 1) := by decide +kernel
theorem dX9_link_15 : decode cX9_link 15 = .ok (.aload_n 0, 1) := by decide +kernel
theorem dX9_link_16 : decode cX9_link 16 = .ok (.getfield 55, 3) := by decide +kernel
theorem dX9_link_19 : decode cX9_link 19 = .ok (.iload_n 1, 1) := by decide +kernel
theorem dX9_link_20 : decode cX9_link 20 = .ok (.iaload, 1) := by decide +kernel
theorem dX9_link_21 : decode cX9_link 21 = .ok (.iconst 1, 1) := by decide +kernel
theorem dX9_link_22 : decode cX9_link 22 = .ok (.isub, 1) := by decide +kernel
theorem dX9_link_23 : decode cX9_link 23 = .ok (.invokestatic 97, 3) := by decide +kernel
theorem dX9_link_26 : decode cX9_link 26 = .ok (.ifCond .eq 22, 3) := by decide +kernel
theorem dX9_link_29 : decode cX9_link 29 = .ok (.iload_n 3, 1) := by decide +kernel
theorem dX9_link_30 : decode cX9_link 30 = .ok (.iconst 0, 1) := by decide +kernel
theorem dX9_link_31 : decode cX9_link 31 = .ok (.iconst 3, 1) := by decide +kernel
theorem dX9_link_32 : decode cX9_link 32 = .ok (.invokestatic 97, 3) := by decide +kernel
theorem dX9_link_35 : decode cX9_link 35 = .ok (.ifCond .eq 13, 3) := by decide +kernel
theorem dX9_link_38 : decode cX9_link 38 = .ok (.aload_n 0, 1) := by decide +kernel
theorem dX9_link_39 : decode cX9_link 39 = .ok (.iload_n 1, 1) := by decide +kernel
theorem dX9_link_40 : decode cX9_link 40 = .ok (.iload_n 2, 1) := by decide +kernel
theorem dX9_link_41 : decode cX9_link 41 = .ok (.iload_n 3, 1) := by decide +kernel
theorem dX9_link_42 : decode cX9_link 42 = .ok (.invokevirtual 235, 3) := by decide +kernel
theorem dX9_link_45 : decode cX9_link 45 = .ok (.goto 8, 3) := by decide +kernel
theorem dX9_link_48 : decode cX9_link 48 = .ok (.aload_n 0, 1) := by decide +kernel
theorem dX9_link_49 : decode cX9_link 49 = .ok (.iconst 1, 1) := by decide +kernel
theorem dX9_link_50 : decode cX9_link 50 = .ok (.invokevirtual 113, 3) := by decide +kernel
theorem dX9_link_53 : decode cX9_link 53 = .ok (.ireturn, 1) := by decide +kernel
theorem dX9_send_0 : decode cX9_send 0 = .ok (.aload_n 0, 1) := by decide +kernel
theorem dX9_send_1 : decode cX9_send 1 = .ok (.iconst 0, 1) := by decide +kernel
theorem dX9_send_2 : decode cX9_send 2 = .ok (.putfield 91, 3) := by decide +kernel
theorem dX9_send_5 : decode cX9_send 5 = .ok (.aload_n 0, 1) := by decide +kernel
theorem dX9_send_6 : decode cX9_send 6 = .ok (.iload_n 2, 1) := by decide +kernel
theorem dX9_send_7 : decode cX9_send 7 = .ok (.iload_n 1, 1) := by decide +kernel
theorem dX9_send_8 : decode cX9_send 8 = .ok (.invokevirtual 207, 3) := by decide +kernel
theorem dX9_send_11 : decode cX9_send 11 = .ok (.ifCond .ne 9, 3) := by decide +kernel
theorem dX9_send_14 : decode cX9_send 14 = .ok (.aload_n 0, 1) := by decide +kernel
theorem dX9_send_15 : decode cX9_send 15 = .ok (.iconst 1, 1) := by decide +kernel
theorem dX9_send_16 : decode cX9_send 16 = .ok (.invokevirtual 113, 3) := by decide +kernel
theorem dX9_send_19 : decode cX9_send 19 = .ok (.ireturn, 1) := by decide +kernel
theorem dX9_send_20 : decode cX9_send 20 = .ok (.iload_n 3, 1) := by decide +kernel
theorem dX9_send_21 : decode cX9_send 21 = .ok (.iconst 0, 1) := by decide +kernel
theorem dX9_send_22 : decode cX9_send 22 = .ok (.bipush 30, 2) := by decide +kernel
theorem dX9_send_24 : decode cX9_send 24 = .ok (.invokestatic 97, 3) := by decide +kernel
theorem dX9_send_27 : decode cX9_send 27 = .ok (.ifCond .ne 9, 3) := by decide +kernel
theorem dX9_send_30 : decode cX9_send 30 = .ok (.aload_n 0, 1) := by decide +kernel
theorem dX9_send_31 : decode cX9_send 31 = .ok (.iconst 2, 1) := by decide +kernel
theorem dX9_send_32 : decode cX9_send 32 = .ok (.invokevirtual 113, 3) := by decide +kernel
theorem dX9_send_35 : decode cX9_send 35 = .ok (.ireturn, 1) := by decide +kernel
theorem dX9_send_36 : decode cX9_send 36 = .ok (.aload_n 0, 1) := by decide +kernel
theorem dX9_send_37 : decode cX9_send 37 = .ok (.getfield 182, 3) := by decide +kernel
theorem dX9_send_40 : decode cX9_send 40 = .ok (.bipush 40, 2) := by decide +kernel
theorem dX9_send_42 : decode cX9_send 42 = .ok (.if_icmp .ne 9, 3) := by decide +kernel
theorem dX9_send_45 : decode cX9_send 45 = .ok (.aload_n 0, 1) := by decide +kernel
theorem dX9_send_46 : decode cX9_send 46 = .ok (.iconst 3, 1) := by decide +kernel
theorem dX9_send_47 : decode cX9_send 47 = .ok (.invokevirtual 113, 3) := by decide +kernel
theorem dX9_send_50 : decode cX9_send 50 = .ok (.ireturn, 1) := by decide +kernel
theorem dX9_send_51 : decode cX9_send 51 = .ok (.aload_n 0, 1) := by decide +kernel
theorem dX9_send_52 : decode cX9_send 52 = .ok (.getfield 61, 3) := by decide +kernel
theorem dX9_send_55 : decode cX9_send 55 = .ok (.aload_n 0, 1) := by decide +kernel
theorem dX9_send_56 : decode cX9_send 56 = .ok (.getfield 182, 3) := by decide +kernel
theorem dX9_send_59 : decode cX9_send 59 = .ok (.iload_n 1, 1) := by decide +kernel
theorem dX9_send_60 : decode cX9_send 60 = .ok (.iastore, 1) := by decide +kernel
theorem dX9_send_61 : decode cX9_send 61 = .ok (.aload_n 0, 1) := by decide +kernel
theorem dX9_send_62 : decode cX9_send 62 = .ok (.getfield 64, 3) := by decide +kernel
theorem dX9_send_65 : decode cX9_send 65 = .ok (.aload_n 0, 1) := by decide +kernel
theorem dX9_send_66 : decode cX9_send 66 = .ok (.getfield 182, 3) := by decide +kernel
theorem dX9_send_69 : decode cX9_send 69 = .ok (.iload_n 2, 1) := by decide +kernel
theorem dX9_send_70 : decode cX9_send 70 = .ok (.iastore, 1) := by decide +kernel
theorem dX9_send_71 : decode cX9_send 71 = .ok (.aload_n 0, 1) := by decide +kernel
theorem dX9_send_72 : decode cX9_send 72 = .ok (.getfield 67, 3) := by decide +kernel
theorem dX9_send_75 : decode cX9_send 75 = .ok (.aload_n 0, 1) := by decide +kernel
theorem dX9_send_76 : decode cX9_send 76 = .ok (.getfield 182, 3) := by decide +kernel
theorem dX9_send_79 : decode cX9_send 79 = .ok (.aload_n 0, 1) := by decide +kernel
theorem dX9_send_80 : decode cX9_send 80 = .ok (.getfield 75, 3) := by decide +kernel
theorem dX9_send_83 : decode cX9_send 83 = .ok (.getfield 219, 3) := by decide +kernel
theorem dX9_send_86 : decode cX9_send 86 = .ok (.iload_n 3, 1) := by decide +kernel
theorem dX9_send_87 : decode cX9_send 87 = .ok (.iadd, 1) := by decide +kernel
theorem dX9_send_88 : decode cX9_send 88 = .ok (.iastore, 1) := by decide +kernel
theorem dX9_send_89 : decode cX9_send 89 = .ok (.aload_n 0, 1) := by decide +kernel
theorem dX9_send_90 : decode cX9_send 90 = .ok (.getfield 75, 3) := by decide +kernel
theorem dX9_send_93 : decode cX9_send 93 = .ok (.getfield 244, 3) := by decide +kernel
theorem dX9_send_96 : decode cX9_send 96 = .ok (.aload_n 0, 1) := by decide +kernel
theorem dX9_send_97 : decode cX9_send 97 = .ok (.getfield 182, 3) := by decide +kernel
theorem dX9_send_100 : decode cX9_send 100 = .ok (.iconst (-1), 1) := by decide +kernel
theorem dX9_send_101 : decode cX9_send 101 = .ok (.iastore, 1) := by decide +kernel
theorem dX9_send_102 : decode cX9_send 102 = .ok (.aload_n 0, 1) := by decide +kernel
theorem dX9_send_103 : decode cX9_send 103 = .ok (.dup, 1) := by decide +kernel
theorem dX9_send_104 : decode cX9_send 104 = .ok (.getfield 182, 3) := by decide +kernel
theorem dX9_send_107 : decode cX9_send 107 = .ok (.iconst 1, 1) := by decide +kernel
theorem dX9_send_108 : decode cX9_send 108 = .ok (.iadd, 1) := by decide +kernel
theorem dX9_send_109 : decode cX9_send 109 = .ok (.putfield 182, 3) := by decide +kernel
theorem dX9_send_112 : decode cX9_send 112 = .ok (.aload_n 0, 1) := by decide +kernel
theorem dX9_send_113 : decode cX9_send 113 = .ok (.getfield 182, 3) := by decide +kernel
theorem dX9_send_116 : decode cX9_send 116 = .ok (.iconst 1, 1) := by decide +kernel
theorem dX9_send_117 : decode cX9_send 117 = .ok (.isub, 1) := by decide +kernel
theorem dX9_send_118 : decode cX9_send 118 = .ok (.ireturn, 1) := by decide +kernel
theorem dX9_letterTold_0 : decode cX9_letterTold 0 = .ok (.iconst 5, 1) := by decide +kernel
theorem dX9_letterTold_1 : decode cX9_letterTold 1 = .ok (.newarray .int, 2) := by decide +kernel
theorem dX9_letterTold_3 : decode cX9_letterTold 3 = .ok (.dup, 1) := by decide +kernel
theorem dX9_letterTold_4 : decode cX9_letterTold 4 = .ok (.iconst 0, 1) := by decide +kernel
theorem dX9_letterTold_5 : decode cX9_letterTold 5 = .ok (.aload_n 0, 1) := by decide +kernel
theorem dX9_letterTold_6 : decode cX9_letterTold 6 = .ok (.getfield 61, 3) := by decide +kernel
theorem dX9_letterTold_9 : decode cX9_letterTold 9 = .ok (.iload_n 1, 1) := by decide +kernel
theorem dX9_letterTold_10 : decode cX9_letterTold 10 = .ok (.iaload, 1) := by decide +kernel
theorem dX9_letterTold_11 : decode cX9_letterTold 11 = .ok (.iastore, 1) := by decide +kernel
theorem dX9_letterTold_12 : decode cX9_letterTold 12 = .ok (.dup, 1) := by decide +kernel
theorem dX9_letterTold_13 : decode cX9_letterTold 13 = .ok (.iconst 1, 1) := by decide +kernel
theorem dX9_letterTold_14 : decode cX9_letterTold 14 = .ok (.aload_n 0, 1) := by decide +kernel
theorem dX9_letterTold_15 : decode cX9_letterTold 15 = .ok (.getfield 64, 3) := by decide +kernel
theorem dX9_letterTold_18 : decode cX9_letterTold 18 = .ok (.iload_n 1, 1) := by decide +kernel
theorem dX9_letterTold_19 : decode cX9_letterTold 19 = .ok (.iaload, 1) := by decide +kernel
theorem dX9_letterTold_20 : decode cX9_letterTold 20 = .ok (.iastore, 1) := by decide +kernel
theorem dX9_letterTold_21 : decode cX9_letterTold 21 = .ok (.dup, 1) := by decide +kernel
theorem dX9_letterTold_22 : decode cX9_letterTold 22 = .ok (.iconst 2, 1) := by decide +kernel
theorem dX9_letterTold_23 : decode cX9_letterTold 23 = .ok (.aload_n 0, 1) := by decide +kernel
theorem dX9_letterTold_24 : decode cX9_letterTold 24 = .ok (.getfield 67, 3) := by decide +kernel
theorem dX9_letterTold_27 : decode cX9_letterTold 27 = .ok (.iload_n 1, 1) := by decide +kernel
theorem dX9_letterTold_28 : decode cX9_letterTold 28 = .ok (.iaload, 1) := by decide +kernel
theorem dX9_letterTold_29 : decode cX9_letterTold 29 = .ok (.iastore, 1) := by decide +kernel
theorem dX9_letterTold_30 : decode cX9_letterTold 30 = .ok (.dup, 1) := by decide +kernel
theorem dX9_letterTold_31 : decode cX9_letterTold 31 = .ok (.iconst 3, 1) := by decide +kernel
theorem dX9_letterTold_32 : decode cX9_letterTold 32 = .ok (.aload_n 0, 1) := by decide +kernel
theorem dX9_letterTold_33 : decode cX9_letterTold 33 = .ok (.getfield 75, 3) := by decide +kernel
theorem dX9_letterTold_36 : decode cX9_letterTold 36 = .ok (.getfield 185, 3) := by decide +kernel
theorem dX9_letterTold_39 : decode cX9_letterTold 39 = .ok (.iload_n 1, 1) := by decide +kernel
theorem dX9_letterTold_40 : decode cX9_letterTold 40 = .ok (.iaload, 1) := by decide +kernel
theorem dX9_letterTold_41 : decode cX9_letterTold 41 = .ok (.iastore, 1) := by decide +kernel
theorem dX9_letterTold_42 : decode cX9_letterTold 42 = .ok (.dup, 1) := by decide +kernel
theorem dX9_letterTold_43 : decode cX9_letterTold 43 = .ok (.iconst 4, 1) := by decide +kernel
theorem dX9_letterTold_44 : decode cX9_letterTold 44 = .ok (.aload_n 0, 1) := by decide +kernel
theorem dX9_letterTold_45 : decode cX9_letterTold 45 = .ok (.getfield 75, 3) := by decide +kernel
theorem dX9_letterTold_48 : decode cX9_letterTold 48 = .ok (.getfield 244, 3) := by decide +kernel
theorem dX9_letterTold_51 : decode cX9_letterTold 51 = .ok (.iload_n 1, 1) := by decide +kernel
theorem dX9_letterTold_52 : decode cX9_letterTold 52 = .ok (.iaload, 1) := by decide +kernel
theorem dX9_letterTold_53 : decode cX9_letterTold 53 = .ok (.iastore, 1) := by decide +kernel
theorem dX9_letterTold_54 : decode cX9_letterTold 54 = .ok (.astore_n 3, 1) := by decide +kernel
theorem dX9_letterTold_55 : decode cX9_letterTold 55 = .ok (.aload_n 3, 1) := by decide +kernel
theorem dX9_letterTold_56 : decode cX9_letterTold 56 = .ok (.iload_n 2, 1) := by decide +kernel
theorem dX9_letterTold_57 : decode cX9_letterTold 57 = .ok (.iaload, 1) := by decide +kernel
theorem dX9_letterTold_58 : decode cX9_letterTold 58 = .ok (.ireturn, 1) := by decide +kernel
theorem dX9_letter_0 : decode cX9_letter 0 = .ok (.aload_n 0, 1) := by decide +kernel
theorem dX9_letter_1 : decode cX9_letter 1 = .ok (.iconst 0, 1) := by decide +kernel
theorem dX9_letter_2 : decode cX9_letter 2 = .ok (.putfield 91, 3) := by decide +kernel
theorem dX9_letter_5 : decode cX9_letter 5 = .ok (.iload_n 1, 1) := by decide +kernel
theorem dX9_letter_6 : decode cX9_letter 6 = .ok (.iconst 0, 1) := by decide +kernel
theorem dX9_letter_7 : decode cX9_letter 7 = .ok (.aload_n 0, 1) := by decide +kernel
theorem dX9_letter_8 : decode cX9_letter 8 = .ok (.getfield 182, 3) := by decide +kernel
theorem dX9_letter_11 : decode cX9_letter 11 = .ok (.iconst 1, 1) := by decide +kernel
theorem dX9_letter_12 : decode cX9_letter 12 = .ok (.isub, 1) := by decide +kernel
theorem dX9_letter_13 : decode cX9_letter 13 = .ok (.invokestatic 97, 3) := by decide +kernel
theorem dX9_letter_16 : decode cX9_letter 16 = .ok (.ifCond .eq 21, 3) := by decide +kernel
theorem dX9_letter_19 : decode cX9_letter 19 = .ok (.iload_n 2, 1) := by decide +kernel
theorem dX9_letter_20 : decode cX9_letter 20 = .ok (.iconst 0, 1) := by decide +kernel
theorem dX9_letter_21 : decode cX9_letter 21 = .ok (.iconst 4, 1) := by decide +kernel
theorem dX9_letter_22 : decode cX9_letter 22 = .ok (.invokestatic 97, 3) := by decide +kernel
theorem dX9_letter_25 : decode cX9_letter 25 = .ok (.ifCond .eq 12, 3) := by decide +kernel
theorem dX9_letter_28 : decode cX9_letter 28 = .ok (.aload_n 0, 1) := by decide +kernel
theorem dX9_letter_29 : decode cX9_letter 29 = .ok (.iload_n 1, 1) := by decide +kernel
theorem dX9_letter_30 : decode cX9_letter 30 = .ok (.iload_n 2, 1) := by decide +kernel
theorem dX9_letter_31 : decode cX9_letter 31 = .ok (.invokevirtual 247, 3) := by decide +kernel
theorem dX9_letter_34 : decode cX9_letter 34 = .ok (.goto 8, 3) := by decide +kernel
theorem dX9_letter_37 : decode cX9_letter 37 = .ok (.aload_n 0, 1) := by decide +kernel
theorem dX9_letter_38 : decode cX9_letter 38 = .ok (.iconst 1, 1) := by decide +kernel
theorem dX9_letter_39 : decode cX9_letter 39 = .ok (.invokevirtual 113, 3) := by decide +kernel
theorem dX9_letter_42 : decode cX9_letter 42 = .ok (.ireturn, 1) := by decide +kernel
theorem dX9_pass_0 : decode cX9_pass 0 = .ok (.aload_n 0, 1) := by decide +kernel
theorem dX9_pass_1 : decode cX9_pass 1 = .ok (.iconst 0, 1) := by decide +kernel
theorem dX9_pass_2 : decode cX9_pass 2 = .ok (.putfield 91, 3) := by decide +kernel
theorem dX9_pass_5 : decode cX9_pass 5 = .ok (.iload_n 1, 1) := by decide +kernel
theorem dX9_pass_6 : decode cX9_pass 6 = .ok (.iconst 1, 1) := by decide +kernel
theorem dX9_pass_7 : decode cX9_pass 7 = .ok (.bipush 100, 2) := by decide +kernel
theorem dX9_pass_9 : decode cX9_pass 9 = .ok (.invokestatic 97, 3) := by decide +kernel
theorem dX9_pass_12 : decode cX9_pass 12 = .ok (.ifCond .ne 9, 3) := by decide +kernel
theorem dX9_pass_15 : decode cX9_pass 15 = .ok (.aload_n 0, 1) := by decide +kernel
theorem dX9_pass_16 : decode cX9_pass 16 = .ok (.iconst 1, 1) := by decide +kernel
theorem dX9_pass_17 : decode cX9_pass 17 = .ok (.invokevirtual 113, 3) := by decide +kernel
theorem dX9_pass_20 : decode cX9_pass 20 = .ok (.ireturn, 1) := by decide +kernel
theorem dX9_pass_21 : decode cX9_pass 21 = .ok (.iconst 0, 1) := by decide +kernel
theorem dX9_pass_22 : decode cX9_pass 22 = .ok (.istore_n 2, 1) := by decide +kernel
theorem dX9_pass_23 : decode cX9_pass 23 = .ok (.iconst 0, 1) := by decide +kernel
theorem dX9_pass_24 : decode cX9_pass 24 = .ok (.istore_n 3, 1) := by decide +kernel
theorem dX9_pass_25 : decode cX9_pass 25 = .ok (.iload_n 3, 1) := by decide +kernel
theorem dX9_pass_26 : decode cX9_pass 26 = .ok (.iload_n 1, 1) := by decide +kernel
theorem dX9_pass_27 : decode cX9_pass 27 = .ok (.if_icmp .ge 19, 3) := by decide +kernel
theorem dX9_pass_30 : decode cX9_pass 30 = .ok (.iload_n 2, 1) := by decide +kernel
theorem dX9_pass_31 : decode cX9_pass 31 = .ok (.aload_n 0, 1) := by decide +kernel
theorem dX9_pass_32 : decode cX9_pass 32 = .ok (.getfield 75, 3) := by decide +kernel
theorem dX9_pass_35 : decode cX9_pass 35 = .ok (.invokevirtual 250, 3) := by decide +kernel
theorem dX9_pass_38 : decode cX9_pass 38 = .ok (.iadd, 1) := by decide +kernel
theorem dX9_pass_39 : decode cX9_pass 39 = .ok (.istore_n 2, 1) := by decide +kernel
theorem dX9_pass_40 : decode cX9_pass 40 = .ok (.iinc 3 1, 3) := by decide +kernel
theorem dX9_pass_43 : decode cX9_pass 43 = .ok (.goto (-18), 3) := by decide +kernel
theorem dX9_pass_46 : decode cX9_pass 46 = .ok (.iload_n 2, 1) := by decide +kernel
theorem dX9_pass_47 : decode cX9_pass 47 = .ok (.ireturn, 1) := by decide +kernel
theorem dX9_arrives_0 : decode cX9_arrives 0 = .ok (.aload_n 0, 1) := by decide +kernel
theorem dX9_arrives_1 : decode cX9_arrives 1 = .ok (.iconst 0, 1) := by decide +kernel
theorem dX9_arrives_2 : decode cX9_arrives 2 = .ok (.putfield 91, 3) := by decide +kernel
theorem dX9_arrives_5 : decode cX9_arrives 5 = .ok (.iload_n 1, 1) := by decide +kernel
theorem dX9_arrives_6 : decode cX9_arrives 6 = .ok (.iconst 0, 1) := by decide +kernel
theorem dX9_arrives_7 : decode cX9_arrives 7 = .ok (.aload_n 0, 1) := by decide +kernel
theorem dX9_arrives_8 : decode cX9_arrives 8 = .ok (.getfield 182, 3) := by decide +kernel
theorem dX9_arrives_11 : decode cX9_arrives 11 = .ok (.iconst 1, 1) := by decide +kernel
theorem dX9_arrives_12 : decode cX9_arrives 12 = .ok (.isub, 1) := by decide +kernel
theorem dX9_arrives_13 : decode cX9_arrives 13 = .ok (.invokestatic 97, 3) := by decide +kernel
theorem dX9_arrives_16 : decode cX9_arrives 16 = .ok (.ifCond .ne 9, 3) := by decide +kernel
theorem dX9_arrives_19 : decode cX9_arrives 19 = .ok (.aload_n 0, 1) := by decide +kernel
theorem dX9_arrives_20 : decode cX9_arrives 20 = .ok (.iconst 1, 1) := by decide +kernel
theorem dX9_arrives_21 : decode cX9_arrives 21 = .ok (.invokevirtual 113, 3) := by decide +kernel
theorem dX9_arrives_24 : decode cX9_arrives 24 = .ok (.ireturn, 1) := by decide +kernel
theorem dX9_arrives_25 : decode cX9_arrives 25 = .ok (.aload_n 0, 1) := by decide +kernel
theorem dX9_arrives_26 : decode cX9_arrives 26 = .ok (.getfield 79, 3) := by decide +kernel
theorem dX9_arrives_29 : decode cX9_arrives 29 = .ok (.aload_n 0, 1) := by decide +kernel
theorem dX9_arrives_30 : decode cX9_arrives 30 = .ok (.getfield 75, 3) := by decide +kernel
theorem dX9_arrives_33 : decode cX9_arrives 33 = .ok (.invokevirtual 254, 3) := by decide +kernel
theorem dX9_arrives_36 : decode cX9_arrives 36 = .ok (.iconst 0, 1) := by decide +kernel
theorem dX9_arrives_37 : decode cX9_arrives 37 = .ok (.istore_n 2, 1) := by decide +kernel
theorem dX9_arrives_38 : decode cX9_arrives 38 = .ok (.aload_n 0, 1) := by decide +kernel
theorem dX9_arrives_39 : decode cX9_arrives 39 = .ok (.getfield 79, 3) := by decide +kernel
theorem dX9_arrives_42 : decode cX9_arrives 42 = .ok (.getfield 185, 3) := by decide +kernel
theorem dX9_arrives_45 : decode cX9_arrives 45 = .ok (.iload_n 1, 1) := by decide +kernel
theorem dX9_arrives_46 : decode cX9_arrives 46 = .ok (.iaload, 1) := by decide +kernel
theorem dX9_arrives_47 : decode cX9_arrives 47 = .ok (.ifCond .ne 23, 3) := by decide +kernel
theorem dX9_arrives_50 : decode cX9_arrives 50 = .ok (.iload_n 2, 1) := by decide +kernel
theorem dX9_arrives_51 : decode cX9_arrives 51 = .ok (.bipush 40, 2) := by decide +kernel
theorem dX9_arrives_53 : decode cX9_arrives 53 = .ok (.if_icmp .ge 17, 3) := by decide +kernel
theorem dX9_arrives_56 : decode cX9_arrives 56 = .ok (.aload_n 0, 1) := by decide +kernel
theorem dX9_arrives_57 : decode cX9_arrives 57 = .ok (.getfield 79, 3) := by decide +kernel
theorem dX9_arrives_60 : decode cX9_arrives 60 = .ok (.invokevirtual 250, 3) := by decide +kernel
theorem dX9_arrives_63 : decode cX9_arrives 63 = .ok (.pop, 1) := by decide +kernel
theorem dX9_arrives_64 : decode cX9_arrives 64 = .ok (.iinc 2 1, 3) := by decide +kernel
theorem dX9_arrives_67 : decode cX9_arrives 67 = .ok (.goto (-29), 3) := by decide +kernel
theorem dX9_arrives_70 : decode cX9_arrives 70 = .ok (.aload_n 0, 1) := by decide +kernel
theorem dX9_arrives_71 : decode cX9_arrives 71 = .ok (.getfield 79, 3) := by decide +kernel
theorem dX9_arrives_74 : decode cX9_arrives 74 = .ok (.getfield 185, 3) := by decide +kernel
theorem dX9_arrives_77 : decode cX9_arrives 77 = .ok (.iload_n 1, 1) := by decide +kernel
theorem dX9_arrives_78 : decode cX9_arrives 78 = .ok (.iaload, 1) := by decide +kernel
theorem dX9_arrives_79 : decode cX9_arrives 79 = .ok (.iconst 1, 1) := by decide +kernel
theorem dX9_arrives_80 : decode cX9_arrives 80 = .ok (.if_icmp .ne 7, 3) := by decide +kernel
theorem dX9_arrives_83 : decode cX9_arrives 83 = .ok (.iload_n 2, 1) := by decide +kernel
theorem dX9_arrives_84 : decode cX9_arrives 84 = .ok (.goto 4, 3) := by decide +kernel
theorem dX9_arrives_87 : decode cX9_arrives 87 = .ok (.iconst (-1), 1) := by decide +kernel
theorem dX9_arrives_88 : decode cX9_arrives 88 = .ok (.ireturn, 1) := by decide +kernel
theorem dX9_counted_0 : decode cX9_counted 0 = .ok (.iconst 0, 1) := by decide +kernel
theorem dX9_counted_1 : decode cX9_counted 1 = .ok (.istore_n 2, 1) := by decide +kernel
theorem dX9_counted_2 : decode cX9_counted 2 = .ok (.iconst 0, 1) := by decide +kernel
theorem dX9_counted_3 : decode cX9_counted 3 = .ok (.istore_n 3, 1) := by decide +kernel
theorem dX9_counted_4 : decode cX9_counted 4 = .ok (.iconst 0, 1) := by decide +kernel
theorem dX9_counted_5 : decode cX9_counted 5 = .ok (.istore 4, 2) := by decide +kernel
theorem dX9_counted_7 : decode cX9_counted 7 = .ok (.iconst 0, 1) := by decide +kernel
theorem dX9_counted_8 : decode cX9_counted 8 = .ok (.istore 5, 2) := by decide +kernel
theorem dX9_counted_10 : decode cX9_counted 10 = .ok (.iconst 0, 1) := by decide +kernel
theorem dX9_counted_11 : decode cX9_counted 11 = .ok (.istore 6, 2) := by decide +kernel
theorem dX9_counted_13 : decode cX9_counted 13 = .ok (.iload 6, 2) := by decide +kernel
theorem dX9_counted_15 : decode cX9_counted 15 = .ok (.aload_n 0, 1) := by decide +kernel
theorem dX9_counted_16 : decode cX9_counted 16 = .ok (.getfield 182, 3) := by decide +kernel
theorem dX9_counted_19 : decode cX9_counted 19 = .ok (.if_icmp .ge 52, 3) := by decide +kernel
theorem dX9_counted_22 : decode cX9_counted 22 = .ok (.iload_n 2, 1) := by decide +kernel
theorem dX9_counted_23 : decode cX9_counted 23 = .ok (.aload_n 0, 1) := by decide +kernel
theorem dX9_counted_24 : decode cX9_counted 24 = .ok (.getfield 75, 3) := by decide +kernel
theorem dX9_counted_27 : decode cX9_counted 27 = .ok (.getfield 185, 3) := by decide +kernel
theorem dX9_counted_30 : decode cX9_counted 30 = .ok (.iload 6, 2) := by decide +kernel
theorem dX9_counted_32 : decode cX9_counted 32 = .ok (.iaload, 1) := by decide +kernel
theorem dX9_counted_33 : decode cX9_counted 33 = .ok (.ifCond .ne 7, 3) := by decide +kernel
theorem dX9_counted_36 : decode cX9_counted 36 = .ok (.iconst 1, 1) := by decide +kernel
theorem dX9_counted_37 : decode cX9_counted 37 = .ok (.goto 4, 3) := by decide +kernel
theorem dX9_counted_40 : decode cX9_counted 40 = .ok (.iconst 0, 1) := by decide +kernel
theorem dX9_counted_41 : decode cX9_counted 41 = .ok (.iadd, 1) := by decide +kernel
theorem dX9_counted_42 : decode cX9_counted 42 = .ok (.istore_n 2, 1) := by decide +kernel
theorem dX9_counted_43 : decode cX9_counted 43 = .ok (.iload_n 3, 1) := by decide +kernel
theorem dX9_counted_44 : decode cX9_counted 44 = .ok (.aload_n 0, 1) := by decide +kernel
theorem dX9_counted_45 : decode cX9_counted 45 = .ok (.getfield 75, 3) := by decide +kernel
theorem dX9_counted_48 : decode cX9_counted 48 = .ok (.getfield 185, 3) := by decide +kernel
theorem dX9_counted_51 : decode cX9_counted 51 = .ok (.iload 6, 2) := by decide +kernel
theorem dX9_counted_53 : decode cX9_counted 53 = .ok (.iaload, 1) := by decide +kernel
theorem dX9_counted_54 : decode cX9_counted 54 = .ok (.iconst 1, 1) := by decide +kernel
theorem dX9_counted_55 : decode cX9_counted 55 = .ok (.if_icmp .ne 7, 3) := by decide +kernel
theorem dX9_counted_58 : decode cX9_counted 58 = .ok (.iconst 1, 1) := by decide +kernel
theorem dX9_counted_59 : decode cX9_counted 59 = .ok (.goto 4, 3) := by decide +kernel
theorem dX9_counted_62 : decode cX9_counted 62 = .ok (.iconst 0, 1) := by decide +kernel
theorem dX9_counted_63 : decode cX9_counted 63 = .ok (.iadd, 1) := by decide +kernel
theorem dX9_counted_64 : decode cX9_counted 64 = .ok (.istore_n 3, 1) := by decide +kernel
theorem dX9_counted_65 : decode cX9_counted 65 = .ok (.iinc 6 1, 3) := by decide +kernel
theorem dX9_counted_68 : decode cX9_counted 68 = .ok (.goto (-55), 3) := by decide +kernel
theorem dX9_counted_71 : decode cX9_counted 71 = .ok (.iconst 0, 1) := by decide +kernel
theorem dX9_counted_72 : decode cX9_counted 72 = .ok (.istore 6, 2) := by decide +kernel
theorem dX9_counted_74 : decode cX9_counted 74 = .ok (.iload 6, 2) := by decide +kernel
theorem dX9_counted_76 : decode cX9_counted 76 = .ok (.aload_n 0, 1) := by decide +kernel
theorem dX9_counted_77 : decode cX9_counted 77 = .ok (.getfield 107, 3) := by decide +kernel
theorem dX9_counted_80 : decode cX9_counted 80 = .ok (.if_icmp .ge 31, 3) := by decide +kernel
theorem dX9_counted_83 : decode cX9_counted 83 = .ok (.iload 4, 2) := by decide +kernel
theorem dX9_counted_85 : decode cX9_counted 85 = .ok (.aload_n 0, 1) := by decide +kernel
theorem dX9_counted_86 : decode cX9_counted 86 = .ok (.getfield 49, 3) := by decide +kernel
theorem dX9_counted_89 : decode cX9_counted 89 = .ok (.iload 6, 2) := by decide +kernel
theorem dX9_counted_91 : decode cX9_counted 91 = .ok (.iaload, 1) := by decide +kernel
theorem dX9_counted_92 : decode cX9_counted 92 = .ok (.bipush (-2), 2) := by decide +kernel
theorem dX9_counted_94 : decode cX9_counted 94 = .ok (.if_icmp .ne 7, 3) := by decide +kernel
theorem dX9_counted_97 : decode cX9_counted 97 = .ok (.iconst 1, 1) := by decide +kernel
theorem dX9_counted_98 : decode cX9_counted 98 = .ok (.goto 4, 3) := by decide +kernel
theorem dX9_counted_101 : decode cX9_counted 101 = .ok (.iconst 0, 1) := by decide +kernel
theorem dX9_counted_102 : decode cX9_counted 102 = .ok (.iadd, 1) := by decide +kernel
theorem dX9_counted_103 : decode cX9_counted 103 = .ok (.istore 4, 2) := by decide +kernel
theorem dX9_counted_105 : decode cX9_counted 105 = .ok (.iinc 6 1, 3) := by decide +kernel
theorem dX9_counted_108 : decode cX9_counted 108 = .ok (.goto (-34), 3) := by decide +kernel
theorem dX9_counted_111 : decode cX9_counted 111 = .ok (.iconst 0, 1) := by decide +kernel
theorem dX9_counted_112 : decode cX9_counted 112 = .ok (.istore 6, 2) := by decide +kernel
theorem dX9_counted_114 : decode cX9_counted 114 = .ok (.iload 6, 2) := by decide +kernel
theorem dX9_counted_116 : decode cX9_counted 116 = .ok (.aload_n 0, 1) := by decide +kernel
theorem dX9_counted_117 : decode cX9_counted 117 = .ok (.getfield 104, 3) := by decide +kernel
theorem dX9_counted_120 : decode cX9_counted 120 = .ok (.if_icmp .ge 33, 3) := by decide +kernel
theorem dX9_counted_123 : decode cX9_counted 123 = .ok (.iload 5, 2) := by decide +kernel
theorem dX9_counted_125 : decode cX9_counted 125 = .ok (.aload_n 0, 1) := by decide +kernel
theorem dX9_counted_126 : decode cX9_counted 126 = .ok (.getfield 75, 3) := by decide +kernel
theorem dX9_counted_129 : decode cX9_counted 129 = .ok (.getfield 158, 3) := by decide +kernel
theorem dX9_counted_132 : decode cX9_counted 132 = .ok (.iload 6, 2) := by decide +kernel
theorem dX9_counted_134 : decode cX9_counted 134 = .ok (.iaload, 1) := by decide +kernel
theorem dX9_counted_135 : decode cX9_counted 135 = .ok (.iconst (-1), 1) := by decide +kernel
theorem dX9_counted_136 : decode cX9_counted 136 = .ok (.if_icmp .ne 7, 3) := by decide +kernel
theorem dX9_counted_139 : decode cX9_counted 139 = .ok (.iconst 0, 1) := by decide +kernel
theorem dX9_counted_140 : decode cX9_counted 140 = .ok (.goto 4, 3) := by decide +kernel
theorem dX9_counted_143 : decode cX9_counted 143 = .ok (.iconst 1, 1) := by decide +kernel
theorem dX9_counted_144 : decode cX9_counted 144 = .ok (.iadd, 1) := by decide +kernel
theorem dX9_counted_145 : decode cX9_counted 145 = .ok (.istore 5, 2) := by decide +kernel
theorem dX9_counted_147 : decode cX9_counted 147 = .ok (.iinc 6 1, 3) := by decide +kernel
theorem dX9_counted_150 : decode cX9_counted 150 = .ok (.goto (-36), 3) := by decide +kernel
theorem dX9_counted_153 : decode cX9_counted 153 = .ok (.bipush 12, 2) := by decide +kernel
theorem dX9_counted_155 : decode cX9_counted 155 = .ok (.newarray .int, 2) := by decide +kernel
theorem dX9_counted_157 : decode cX9_counted 157 = .ok (.dup, 1) := by decide +kernel
theorem dX9_counted_158 : decode cX9_counted 158 = .ok (.iconst 0, 1) := by decide +kernel
theorem dX9_counted_159 : decode cX9_counted 159 = .ok (.aload_n 0, 1) := by decide +kernel
theorem dX9_counted_160 : decode cX9_counted 160 = .ok (.getfield 75, 3) := by decide +kernel
theorem dX9_counted_163 : decode cX9_counted 163 = .ok (.getfield 219, 3) := by decide +kernel
theorem dX9_counted_166 : decode cX9_counted 166 = .ok (.iastore, 1) := by decide +kernel
theorem dX9_counted_167 : decode cX9_counted 167 = .ok (.dup, 1) := by decide +kernel
theorem dX9_counted_168 : decode cX9_counted 168 = .ok (.iconst 1, 1) := by decide +kernel
theorem dX9_counted_169 : decode cX9_counted 169 = .ok (.aload_n 0, 1) := by decide +kernel
theorem dX9_counted_170 : decode cX9_counted 170 = .ok (.getfield 94, 3) := by decide +kernel
theorem dX9_counted_173 : decode cX9_counted 173 = .ok (.iastore, 1) := by decide +kernel
theorem dX9_counted_174 : decode cX9_counted 174 = .ok (.dup, 1) := by decide +kernel
theorem dX9_counted_175 : decode cX9_counted 175 = .ok (.iconst 2, 1) := by decide +kernel
theorem dX9_counted_176 : decode cX9_counted 176 = .ok (.aload_n 0, 1) := by decide +kernel
theorem dX9_counted_177 : decode cX9_counted 177 = .ok (.getfield 101, 3) := by decide +kernel
theorem dX9_counted_180 : decode cX9_counted 180 = .ok (.iastore, 1) := by decide +kernel
theorem dX9_counted_181 : decode cX9_counted 181 = .ok (.dup, 1) := by decide +kernel
theorem dX9_counted_182 : decode cX9_counted 182 = .ok (.iconst 3, 1) := by decide +kernel
theorem dX9_counted_183 : decode cX9_counted 183 = .ok (.aload_n 0, 1) := by decide +kernel
theorem dX9_counted_184 : decode cX9_counted 184 = .ok (.getfield 104, 3) := by decide +kernel
theorem dX9_counted_187 : decode cX9_counted 187 = .ok (.iastore, 1) := by decide +kernel
theorem dX9_counted_188 : decode cX9_counted 188 = .ok (.dup, 1) := by decide +kernel
theorem dX9_counted_189 : decode cX9_counted 189 = .ok (.iconst 4, 1) := by decide +kernel
theorem dX9_counted_190 : decode cX9_counted 190 = .ok (.aload_n 0, 1) := by decide +kernel
theorem dX9_counted_191 : decode cX9_counted 191 = .ok (.getfield 107, 3) := by decide +kernel
theorem dX9_counted_194 : decode cX9_counted 194 = .ok (.iastore, 1) := by decide +kernel
theorem dX9_counted_195 : decode cX9_counted 195 = .ok (.dup, 1) := by decide +kernel
theorem dX9_counted_196 : decode cX9_counted 196 = .ok (.iconst 5, 1) := by decide +kernel
theorem dX9_counted_197 : decode cX9_counted 197 = .ok (.aload_n 0, 1) := by decide +kernel
theorem dX9_counted_198 : decode cX9_counted 198 = .ok (.getfield 182, 3) := by decide +kernel
theorem dX9_counted_201 : decode cX9_counted 201 = .ok (.iastore, 1) := by decide +kernel
theorem dX9_counted_202 : decode cX9_counted 202 = .ok (.dup, 1) := by decide +kernel
theorem dX9_counted_203 : decode cX9_counted 203 = .ok (.bipush 6, 2) := by decide +kernel
theorem dX9_counted_205 : decode cX9_counted 205 = .ok (.iload_n 2, 1) := by decide +kernel
theorem dX9_counted_206 : decode cX9_counted 206 = .ok (.iastore, 1) := by decide +kernel
theorem dX9_counted_207 : decode cX9_counted 207 = .ok (.dup, 1) := by decide +kernel
theorem dX9_counted_208 : decode cX9_counted 208 = .ok (.bipush 7, 2) := by decide +kernel
theorem dX9_counted_210 : decode cX9_counted 210 = .ok (.iload_n 3, 1) := by decide +kernel
theorem dX9_counted_211 : decode cX9_counted 211 = .ok (.iastore, 1) := by decide +kernel
theorem dX9_counted_212 : decode cX9_counted 212 = .ok (.dup, 1) := by decide +kernel
theorem dX9_counted_213 : decode cX9_counted 213 = .ok (.bipush 8, 2) := by decide +kernel
theorem dX9_counted_215 : decode cX9_counted 215 = .ok (.aload_n 0, 1) := by decide +kernel
theorem dX9_counted_216 : decode cX9_counted 216 = .ok (.getfield 110, 3) := by decide +kernel
theorem dX9_counted_219 : decode cX9_counted 219 = .ok (.iastore, 1) := by decide +kernel
theorem dX9_counted_220 : decode cX9_counted 220 = .ok (.dup, 1) := by decide +kernel
theorem dX9_counted_221 : decode cX9_counted 221 = .ok (.bipush 9, 2) := by decide +kernel
theorem dX9_counted_223 : decode cX9_counted 223 = .ok (.aload_n 0, 1) := by decide +kernel
theorem dX9_counted_224 : decode cX9_counted 224 = .ok (.getfield 210, 3) := by decide +kernel
theorem dX9_counted_227 : decode cX9_counted 227 = .ok (.iastore, 1) := by decide +kernel
theorem dX9_counted_228 : decode cX9_counted 228 = .ok (.dup, 1) := by decide +kernel
theorem dX9_counted_229 : decode cX9_counted 229 = .ok (.bipush 10, 2) := by decide +kernel
theorem dX9_counted_231 : decode cX9_counted 231 = .ok (.iload 4, 2) := by decide +kernel
theorem dX9_counted_233 : decode cX9_counted 233 = .ok (.iastore, 1) := by decide +kernel
theorem dX9_counted_234 : decode cX9_counted 234 = .ok (.dup, 1) := by decide +kernel
theorem dX9_counted_235 : decode cX9_counted 235 = .ok (.bipush 11, 2) := by decide +kernel
theorem dX9_counted_237 : decode cX9_counted 237 = .ok (.iload 5, 2) := by decide +kernel
theorem dX9_counted_239 : decode cX9_counted 239 = .ok (.iastore, 1) := by decide +kernel
theorem dX9_counted_240 : decode cX9_counted 240 = .ok (.astore 6, 2) := by decide +kernel
theorem dX9_counted_242 : decode cX9_counted 242 = .ok (.aload 6, 2) := by decide +kernel
theorem dX9_counted_244 : decode cX9_counted 244 = .ok (.iload_n 1, 1) := by decide +kernel
theorem dX9_counted_245 : decode cX9_counted 245 = .ok (.iaload, 1) := by decide +kernel
theorem dX9_counted_246 : decode cX9_counted 246 = .ok (.ireturn, 1) := by decide +kernel
theorem dX9_count_0 : decode cX9_count 0 = .ok (.aload_n 0, 1) := by decide +kernel
theorem dX9_count_1 : decode cX9_count 1 = .ok (.iconst 0, 1) := by decide +kernel
theorem dX9_count_2 : decode cX9_count 2 = .ok (.putfield 91, 3) := by decide +kernel
theorem dX9_count_5 : decode cX9_count 5 = .ok (.iload_n 1, 1) := by decide +kernel
theorem dX9_count_6 : decode cX9_count 6 = .ok (.iconst 0, 1) := by decide +kernel
theorem dX9_count_7 : decode cX9_count 7 = .ok (.bipush 11, 2) := by decide +kernel
theorem dX9_count_9 : decode cX9_count 9 = .ok (.invokestatic 97, 3) := by decide +kernel
theorem dX9_count_12 : decode cX9_count 12 = .ok (.ifCond .eq 11, 3) := by decide +kernel
theorem dX9_count_15 : decode cX9_count 15 = .ok (.aload_n 0, 1) := by decide +kernel
theorem dX9_count_16 : decode cX9_count 16 = .ok (.iload_n 1, 1) := by decide +kernel
theorem dX9_count_17 : decode cX9_count 17 = .ok (.invokevirtual 258, 3) := by decide +kernel
theorem dX9_count_20 : decode cX9_count 20 = .ok (.goto 8, 3) := by decide +kernel
theorem dX9_count_23 : decode cX9_count 23 = .ok (.aload_n 0, 1) := by decide +kernel
theorem dX9_count_24 : decode cX9_count 24 = .ok (.iconst 1, 1) := by decide +kernel
theorem dX9_count_25 : decode cX9_count 25 = .ok (.invokevirtual 113, 3) := by decide +kernel
theorem dX9_count_28 : decode cX9_count 28 = .ok (.ireturn, 1) := by decide +kernel
theorem dX9_sees_0 : decode cX9_sees 0 = .ok (.aload_n 0, 1) := by decide +kernel
theorem dX9_sees_1 : decode cX9_sees 1 = .ok (.iconst 0, 1) := by decide +kernel
theorem dX9_sees_2 : decode cX9_sees 2 = .ok (.putfield 91, 3) := by decide +kernel
theorem dX9_sees_5 : decode cX9_sees 5 = .ok (.aload_n 0, 1) := by decide +kernel
theorem dX9_sees_6 : decode cX9_sees 6 = .ok (.iload_n 1, 1) := by decide +kernel
theorem dX9_sees_7 : decode cX9_sees 7 = .ok (.invokevirtual 147, 3) := by decide +kernel
theorem dX9_sees_10 : decode cX9_sees 10 = .ok (.ifCond .ne 9, 3) := by decide +kernel
theorem dX9_sees_13 : decode cX9_sees 13 = .ok (.aload_n 0, 1) := by decide +kernel
theorem dX9_sees_14 : decode cX9_sees 14 = .ok (.iconst 1, 1) := by decide +kernel
theorem dX9_sees_15 : decode cX9_sees 15 = .ok (.invokevirtual 113, 3) := by decide +kernel
theorem dX9_sees_18 : decode cX9_sees 18 = .ok (.ireturn, 1) := by decide +kernel
theorem dX9_sees_19 : decode cX9_sees 19 = .ok (.iconst 0, 1) := by decide +kernel
theorem dX9_sees_20 : decode cX9_sees 20 = .ok (.istore_n 2, 1) := by decide +kernel
theorem dX9_sees_21 : decode cX9_sees 21 = .ok (.iconst (-1), 1) := by decide +kernel
theorem dX9_sees_22 : decode cX9_sees 22 = .ok (.istore_n 3, 1) := by decide +kernel
theorem dX9_sees_23 : decode cX9_sees 23 = .ok (.iconst 0, 1) := by decide +kernel
theorem dX9_sees_24 : decode cX9_sees 24 = .ok (.istore 4, 2) := by decide +kernel
theorem dX9_sees_26 : decode cX9_sees 26 = .ok (.iload 4, 2) := by decide +kernel
theorem dX9_sees_28 : decode cX9_sees 28 = .ok (.aload_n 0, 1) := by decide +kernel
theorem dX9_sees_29 : decode cX9_sees 29 = .ok (.getfield 101, 3) := by decide +kernel
theorem dX9_sees_32 : decode cX9_sees 32 = .ok (.if_icmp .ge 106, 3) := by decide +kernel
theorem dX9_sees_35 : decode cX9_sees 35 = .ok (.aload_n 0, 1) := by decide +kernel
theorem dX9_sees_36 : decode cX9_sees 36 = .ok (.getfield 23, 3) := by decide +kernel
theorem dX9_sees_39 : decode cX9_sees 39 = .ok (.iload 4, 2) := by decide +kernel
theorem dX9_sees_41 : decode cX9_sees 41 = .ok (.iaload, 1) := by decide +kernel
theorem dX9_sees_42 : decode cX9_sees 42 = .ok (.ifCond .eq 90, 3) := by decide +kernel
theorem dX9_sees_45 : decode cX9_sees 45 = .ok (.aload_n 0, 1) := by decide +kernel
theorem dX9_sees_46 : decode cX9_sees 46 = .ok (.getfield 23, 3) := by decide +kernel
theorem dX9_sees_49 : decode cX9_sees 49 = .ok (.iload 4, 2) := by decide +kernel
theorem dX9_sees_51 : decode cX9_sees 51 = .ok (.iaload, 1) := by decide +kernel
theorem dX9_sees_52 : decode cX9_sees 52 = .ok (.iconst 1, 1) := by decide +kernel
theorem dX9_sees_53 : decode cX9_sees 53 = .ok (.if_icmp .ne 6, 3) := by decide +kernel
theorem dX9_sees_56 : decode cX9_sees 56 = .ok (.goto 76, 3) := by decide +kernel
theorem dX9_sees_59 : decode cX9_sees 59 = .ok (.iconst 0, 1) := by decide +kernel
theorem dX9_sees_60 : decode cX9_sees 60 = .ok (.istore 5, 2) := by decide +kernel
theorem dX9_sees_62 : decode cX9_sees 62 = .ok (.iconst 0, 1) := by decide +kernel
theorem dX9_sees_63 : decode cX9_sees 63 = .ok (.istore 6, 2) := by decide +kernel
theorem dX9_sees_65 : decode cX9_sees 65 = .ok (.iload 6, 2) := by decide +kernel
theorem dX9_sees_67 : decode cX9_sees 67 = .ok (.aload_n 0, 1) := by decide +kernel
theorem dX9_sees_68 : decode cX9_sees 68 = .ok (.getfield 104, 3) := by decide +kernel
theorem dX9_sees_71 : decode cX9_sees 71 = .ok (.if_icmp .ge 46, 3) := by decide +kernel
theorem dX9_sees_74 : decode cX9_sees 74 = .ok (.iload 5, 2) := by decide +kernel
theorem dX9_sees_76 : decode cX9_sees 76 = .ok (.aload_n 0, 1) := by decide +kernel
theorem dX9_sees_77 : decode cX9_sees 77 = .ok (.getfield 29, 3) := by decide +kernel
theorem dX9_sees_80 : decode cX9_sees 80 = .ok (.iload 6, 2) := by decide +kernel
theorem dX9_sees_82 : decode cX9_sees 82 = .ok (.iaload, 1) := by decide +kernel
theorem dX9_sees_83 : decode cX9_sees 83 = .ok (.iload_n 1, 1) := by decide +kernel
theorem dX9_sees_84 : decode cX9_sees 84 = .ok (.if_icmp .ne 23, 3) := by decide +kernel
theorem dX9_sees_87 : decode cX9_sees 87 = .ok (.aload_n 0, 1) := by decide +kernel
theorem dX9_sees_88 : decode cX9_sees 88 = .ok (.getfield 33, 3) := by decide +kernel
theorem dX9_sees_91 : decode cX9_sees 91 = .ok (.iload 6, 2) := by decide +kernel
theorem dX9_sees_93 : decode cX9_sees 93 = .ok (.aaload, 1) := by decide +kernel
theorem dX9_sees_94 : decode cX9_sees 94 = .ok (.arraylength, 1) := by decide +kernel
theorem dX9_sees_95 : decode cX9_sees 95 = .ok (.aload_n 0, 1) := by decide +kernel
theorem dX9_sees_96 : decode cX9_sees 96 = .ok (.iload 4, 2) := by decide +kernel
theorem dX9_sees_98 : decode cX9_sees 98 = .ok (.iload 6, 2) := by decide +kernel
theorem dX9_sees_100 : decode cX9_sees 100 = .ok (.invokevirtual 216, 3) := by decide +kernel
theorem dX9_sees_103 : decode cX9_sees 103 = .ok (.isub, 1) := by decide +kernel
theorem dX9_sees_104 : decode cX9_sees 104 = .ok (.goto 4, 3) := by decide +kernel
theorem dX9_sees_107 : decode cX9_sees 107 = .ok (.iconst 0, 1) := by decide +kernel
theorem dX9_sees_108 : decode cX9_sees 108 = .ok (.iadd, 1) := by decide +kernel
theorem dX9_sees_109 : decode cX9_sees 109 = .ok (.istore 5, 2) := by decide +kernel
theorem dX9_sees_111 : decode cX9_sees 111 = .ok (.iinc 6 1, 3) := by decide +kernel
theorem dX9_sees_114 : decode cX9_sees 114 = .ok (.goto (-49), 3) := by decide +kernel
theorem dX9_sees_117 : decode cX9_sees 117 = .ok (.iload 5, 2) := by decide +kernel
theorem dX9_sees_119 : decode cX9_sees 119 = .ok (.iload_n 2, 1) := by decide +kernel
theorem dX9_sees_120 : decode cX9_sees 120 = .ok (.if_icmp .gt 6, 3) := by decide +kernel
theorem dX9_sees_123 : decode cX9_sees 123 = .ok (.goto 9, 3) := by decide +kernel
theorem dX9_sees_126 : decode cX9_sees 126 = .ok (.iload 5, 2) := by decide +kernel
theorem dX9_sees_128 : decode cX9_sees 128 = .ok (.istore_n 2, 1) := by decide +kernel
theorem dX9_sees_129 : decode cX9_sees 129 = .ok (.iload 4, 2) := by decide +kernel
theorem dX9_sees_131 : decode cX9_sees 131 = .ok (.istore_n 3, 1) := by decide +kernel
theorem dX9_sees_132 : decode cX9_sees 132 = .ok (.iinc 4 1, 3) := by decide +kernel
theorem dX9_sees_135 : decode cX9_sees 135 = .ok (.goto (-109), 3) := by decide +kernel
theorem dX9_sees_138 : decode cX9_sees 138 = .ok (.iload_n 3, 1) := by decide +kernel
theorem dX9_sees_139 : decode cX9_sees 139 = .ok (.ireturn, 1) := by decide +kernel
theorem dX9_plain_0 : decode cX9_plain 0 = .ok (.aload_n 0, 1) := by decide +kernel
theorem dX9_plain_1 : decode cX9_plain 1 = .ok (.iconst 0, 1) := by decide +kernel
theorem dX9_plain_2 : decode cX9_plain 2 = .ok (.putfield 91, 3) := by decide +kernel
theorem dX9_plain_5 : decode cX9_plain 5 = .ok (.iconst 0, 1) := by decide +kernel
theorem dX9_plain_6 : decode cX9_plain 6 = .ok (.istore_n 1, 1) := by decide +kernel
theorem dX9_plain_7 : decode cX9_plain 7 = .ok (.iconst 0, 1) := by decide +kernel
theorem dX9_plain_8 : decode cX9_plain 8 = .ok (.istore_n 2, 1) := by decide +kernel
theorem dX9_plain_9 : decode cX9_plain 9 = .ok (.iconst 0, 1) := by decide +kernel
theorem dX9_plain_10 : decode cX9_plain 10 = .ok (.istore_n 3, 1) := by decide +kernel
theorem dX9_plain_11 : decode cX9_plain 11 = .ok (.iload_n 3, 1) := by decide +kernel
theorem dX9_plain_12 : decode cX9_plain 12 = .ok (.aload_n 0, 1) := by decide +kernel
theorem dX9_plain_13 : decode cX9_plain 13 = .ok (.getfield 104, 3) := by decide +kernel
theorem dX9_plain_16 : decode cX9_plain 16 = .ok (.if_icmp .ge 60, 3) := by decide +kernel
theorem dX9_plain_19 : decode cX9_plain 19 = .ok (.iload_n 2, 1) := by decide +kernel
theorem dX9_plain_20 : decode cX9_plain 20 = .ok (.aload_n 0, 1) := by decide +kernel
theorem dX9_plain_21 : decode cX9_plain 21 = .ok (.getfield 33, 3) := by decide +kernel
theorem dX9_plain_24 : decode cX9_plain 24 = .ok (.iload_n 3, 1) := by decide +kernel
theorem dX9_plain_25 : decode cX9_plain 25 = .ok (.aaload, 1) := by decide +kernel
theorem dX9_plain_26 : decode cX9_plain 26 = .ok (.arraylength, 1) := by decide +kernel
theorem dX9_plain_27 : decode cX9_plain 27 = .ok (.iadd, 1) := by decide +kernel
theorem dX9_plain_28 : decode cX9_plain 28 = .ok (.istore_n 2, 1) := by decide +kernel
theorem dX9_plain_29 : decode cX9_plain 29 = .ok (.iconst 0, 1) := by decide +kernel
theorem dX9_plain_30 : decode cX9_plain 30 = .ok (.istore 4, 2) := by decide +kernel
theorem dX9_plain_32 : decode cX9_plain 32 = .ok (.iload 4, 2) := by decide +kernel
theorem dX9_plain_34 : decode cX9_plain 34 = .ok (.aload_n 0, 1) := by decide +kernel
theorem dX9_plain_35 : decode cX9_plain 35 = .ok (.getfield 33, 3) := by decide +kernel
theorem dX9_plain_38 : decode cX9_plain 38 = .ok (.iload_n 3, 1) := by decide +kernel
theorem dX9_plain_39 : decode cX9_plain 39 = .ok (.aaload, 1) := by decide +kernel
theorem dX9_plain_40 : decode cX9_plain 40 = .ok (.arraylength, 1) := by decide +kernel
theorem dX9_plain_41 : decode cX9_plain 41 = .ok (.if_icmp .ge 29, 3) := by decide +kernel
theorem dX9_plain_44 : decode cX9_plain 44 = .ok (.iload_n 1, 1) := by decide +kernel
theorem dX9_plain_45 : decode cX9_plain 45 = .ok (.aload_n 0, 1) := by decide +kernel
theorem dX9_plain_46 : decode cX9_plain 46 = .ok (.getfield 37, 3) := by decide +kernel
theorem dX9_plain_49 : decode cX9_plain 49 = .ok (.iload_n 3, 1) := by decide +kernel
theorem dX9_plain_50 : decode cX9_plain 50 = .ok (.aaload, 1) := by decide +kernel
theorem dX9_plain_51 : decode cX9_plain 51 = .ok (.iload 4, 2) := by decide +kernel
theorem dX9_plain_53 : decode cX9_plain 53 = .ok (.iaload, 1) := by decide +kernel
theorem dX9_plain_54 : decode cX9_plain 54 = .ok (.ifCond .ne 7, 3) := by decide +kernel
theorem dX9_plain_57 : decode cX9_plain 57 = .ok (.iconst 1, 1) := by decide +kernel
theorem dX9_plain_58 : decode cX9_plain 58 = .ok (.goto 4, 3) := by decide +kernel
theorem dX9_plain_61 : decode cX9_plain 61 = .ok (.iconst 0, 1) := by decide +kernel
theorem dX9_plain_62 : decode cX9_plain 62 = .ok (.iadd, 1) := by decide +kernel
theorem dX9_plain_63 : decode cX9_plain 63 = .ok (.istore_n 1, 1) := by decide +kernel
theorem dX9_plain_64 : decode cX9_plain 64 = .ok (.iinc 4 1, 3) := by decide +kernel
theorem dX9_plain_67 : decode cX9_plain 67 = .ok (.goto (-35), 3) := by decide +kernel
theorem dX9_plain_70 : decode cX9_plain 70 = .ok (.iinc 3 1, 3) := by decide +kernel
theorem dX9_plain_73 : decode cX9_plain 73 = .ok (.goto (-62), 3) := by decide +kernel
theorem dX9_plain_76 : decode cX9_plain 76 = .ok (.iload_n 2, 1) := by decide +kernel
theorem dX9_plain_77 : decode cX9_plain 77 = .ok (.ifCond .ne 7, 3) := by decide +kernel
theorem dX9_plain_80 : decode cX9_plain 80 = .ok (.dconst 1, 1) := by decide +kernel
theorem dX9_plain_81 : decode cX9_plain 81 = .ok (.goto 8, 3) := by decide +kernel
theorem dX9_plain_84 : decode cX9_plain 84 = .ok (.iload_n 1, 1) := by decide +kernel
theorem dX9_plain_85 : decode cX9_plain 85 = .ok (.i2d, 1) := by decide +kernel
theorem dX9_plain_86 : decode cX9_plain 86 = .ok (.iload_n 2, 1) := by decide +kernel
theorem dX9_plain_87 : decode cX9_plain 87 = .ok (.i2d, 1) := by decide +kernel
theorem dX9_plain_88 : decode cX9_plain 88 = .ok (.ddiv, 1) := by decide +kernel
theorem dX9_plain_89 : decode cX9_plain 89 = .ok (.dreturn, 1) := by decide +kernel
theorem dX9_digest_0 : decode cX9_digest 0 = .ok (.aload_n 0, 1) := by decide +kernel
theorem dX9_digest_1 : decode cX9_digest 1 = .ok (.iconst 0, 1) := by decide +kernel
theorem dX9_digest_2 : decode cX9_digest 2 = .ok (.putfield 91, 3) := by decide +kernel
theorem dX9_digest_5 : decode cX9_digest 5 = .ok (.ldc2_w 261, 3) := by decide +kernel
theorem dX9_digest_8 : decode cX9_digest 8 = .ok (.lstore_n 1, 1) := by decide +kernel
theorem dX9_digest_9 : decode cX9_digest 9 = .ok (.iconst 0, 1) := by decide +kernel
theorem dX9_digest_10 : decode cX9_digest 10 = .ok (.istore_n 3, 1) := by decide +kernel
theorem dX9_digest_11 : decode cX9_digest 11 = .ok (.iload_n 3, 1) := by decide +kernel
theorem dX9_digest_12 : decode cX9_digest 12 = .ok (.bipush 11, 2) := by decide +kernel
theorem dX9_digest_14 : decode cX9_digest 14 = .ok (.if_icmp .gt 22, 3) := by decide +kernel
theorem dX9_digest_17 : decode cX9_digest 17 = .ok (.lload_n 1, 1) := by decide +kernel
theorem dX9_digest_18 : decode cX9_digest 18 = .ok (.ldc2_w 263, 3) := by decide +kernel
theorem dX9_digest_21 : decode cX9_digest 21 = .ok (.lmul, 1) := by decide +kernel
theorem dX9_digest_22 : decode cX9_digest 22 = .ok (.aload_n 0, 1) := by decide +kernel
theorem dX9_digest_23 : decode cX9_digest 23 = .ok (.iload_n 3, 1) := by decide +kernel
theorem dX9_digest_24 : decode cX9_digest 24 = .ok (.invokevirtual 258, 3) := by decide +kernel
theorem dX9_digest_27 : decode cX9_digest 27 = .ok (.i2l, 1) := by decide +kernel
theorem dX9_digest_28 : decode cX9_digest 28 = .ok (.ladd, 1) := by decide +kernel
theorem dX9_digest_29 : decode cX9_digest 29 = .ok (.lstore_n 1, 1) := by decide +kernel
theorem dX9_digest_30 : decode cX9_digest 30 = .ok (.iinc 3 1, 3) := by decide +kernel
theorem dX9_digest_33 : decode cX9_digest 33 = .ok (.goto (-22), 3) := by decide +kernel
theorem dX9_digest_36 : decode cX9_digest 36 = .ok (.iconst 0, 1) := by decide +kernel
theorem dX9_digest_37 : decode cX9_digest 37 = .ok (.istore_n 3, 1) := by decide +kernel
theorem dX9_digest_38 : decode cX9_digest 38 = .ok (.iload_n 3, 1) := by decide +kernel
theorem dX9_digest_39 : decode cX9_digest 39 = .ok (.aload_n 0, 1) := by decide +kernel
theorem dX9_digest_40 : decode cX9_digest 40 = .ok (.getfield 94, 3) := by decide +kernel
theorem dX9_digest_43 : decode cX9_digest 43 = .ok (.if_icmp .ge 39, 3) := by decide +kernel
theorem dX9_digest_46 : decode cX9_digest 46 = .ok (.iconst 0, 1) := by decide +kernel
theorem dX9_digest_47 : decode cX9_digest 47 = .ok (.istore 4, 2) := by decide +kernel
theorem dX9_digest_49 : decode cX9_digest 49 = .ok (.iload 4, 2) := by decide +kernel
theorem dX9_digest_51 : decode cX9_digest 51 = .ok (.iconst 4, 1) := by decide +kernel
theorem dX9_digest_52 : decode cX9_digest 52 = .ok (.if_icmp .gt 24, 3) := by decide +kernel
theorem dX9_digest_55 : decode cX9_digest 55 = .ok (.lload_n 1, 1) := by decide +kernel
theorem dX9_digest_56 : decode cX9_digest 56 = .ok (.ldc2_w 263, 3) := by decide +kernel
theorem dX9_digest_59 : decode cX9_digest 59 = .ok (.lmul, 1) := by decide +kernel
theorem dX9_digest_60 : decode cX9_digest 60 = .ok (.aload_n 0, 1) := by decide +kernel
theorem dX9_digest_61 : decode cX9_digest 61 = .ok (.iload_n 3, 1) := by decide +kernel
theorem dX9_digest_62 : decode cX9_digest 62 = .ok (.iload 4, 2) := by decide +kernel
theorem dX9_digest_64 : decode cX9_digest 64 = .ok (.invokevirtual 197, 3) := by decide +kernel
theorem dX9_digest_67 : decode cX9_digest 67 = .ok (.i2l, 1) := by decide +kernel
theorem dX9_digest_68 : decode cX9_digest 68 = .ok (.ladd, 1) := by decide +kernel
theorem dX9_digest_69 : decode cX9_digest 69 = .ok (.lstore_n 1, 1) := by decide +kernel
theorem dX9_digest_70 : decode cX9_digest 70 = .ok (.iinc 4 1, 3) := by decide +kernel
theorem dX9_digest_73 : decode cX9_digest 73 = .ok (.goto (-24), 3) := by decide +kernel
theorem dX9_digest_76 : decode cX9_digest 76 = .ok (.iinc 3 1, 3) := by decide +kernel
theorem dX9_digest_79 : decode cX9_digest 79 = .ok (.goto (-41), 3) := by decide +kernel
theorem dX9_digest_82 : decode cX9_digest 82 = .ok (.iconst 0, 1) := by decide +kernel
theorem dX9_digest_83 : decode cX9_digest 83 = .ok (.istore_n 3, 1) := by decide +kernel
theorem dX9_digest_84 : decode cX9_digest 84 = .ok (.iload_n 3, 1) := by decide +kernel
theorem dX9_digest_85 : decode cX9_digest 85 = .ok (.aload_n 0, 1) := by decide +kernel
theorem dX9_digest_86 : decode cX9_digest 86 = .ok (.getfield 101, 3) := by decide +kernel
theorem dX9_digest_89 : decode cX9_digest 89 = .ok (.if_icmp .ge 40, 3) := by decide +kernel
theorem dX9_digest_92 : decode cX9_digest 92 = .ok (.iconst 0, 1) := by decide +kernel
theorem dX9_digest_93 : decode cX9_digest 93 = .ok (.istore 4, 2) := by decide +kernel
theorem dX9_digest_95 : decode cX9_digest 95 = .ok (.iload 4, 2) := by decide +kernel
theorem dX9_digest_97 : decode cX9_digest 97 = .ok (.bipush 7, 2) := by decide +kernel
theorem dX9_digest_99 : decode cX9_digest 99 = .ok (.if_icmp .gt 24, 3) := by decide +kernel
theorem dX9_digest_102 : decode cX9_digest 102 = .ok (.lload_n 1, 1) := by decide +kernel
theorem dX9_digest_103 : decode cX9_digest 103 = .ok (.ldc2_w 263, 3) := by decide +kernel
theorem dX9_digest_106 : decode cX9_digest 106 = .ok (.lmul, 1) := by decide +kernel
theorem dX9_digest_107 : decode cX9_digest 107 = .ok (.aload_n 0, 1) := by decide +kernel
theorem dX9_digest_108 : decode cX9_digest 108 = .ok (.iload_n 3, 1) := by decide +kernel
theorem dX9_digest_109 : decode cX9_digest 109 = .ok (.iload 4, 2) := by decide +kernel
theorem dX9_digest_111 : decode cX9_digest 111 = .ok (.invokevirtual 191, 3) := by decide +kernel
theorem dX9_digest_114 : decode cX9_digest 114 = .ok (.i2l, 1) := by decide +kernel
theorem dX9_digest_115 : decode cX9_digest 115 = .ok (.ladd, 1) := by decide +kernel
theorem dX9_digest_116 : decode cX9_digest 116 = .ok (.lstore_n 1, 1) := by decide +kernel
theorem dX9_digest_117 : decode cX9_digest 117 = .ok (.iinc 4 1, 3) := by decide +kernel
theorem dX9_digest_120 : decode cX9_digest 120 = .ok (.goto (-25), 3) := by decide +kernel
theorem dX9_digest_123 : decode cX9_digest 123 = .ok (.iinc 3 1, 3) := by decide +kernel
theorem dX9_digest_126 : decode cX9_digest 126 = .ok (.goto (-42), 3) := by decide +kernel
theorem dX9_digest_129 : decode cX9_digest 129 = .ok (.iconst 0, 1) := by decide +kernel
theorem dX9_digest_130 : decode cX9_digest 130 = .ok (.istore_n 3, 1) := by decide +kernel
theorem dX9_digest_131 : decode cX9_digest 131 = .ok (.iload_n 3, 1) := by decide +kernel
theorem dX9_digest_132 : decode cX9_digest 132 = .ok (.aload_n 0, 1) := by decide +kernel
theorem dX9_digest_133 : decode cX9_digest 133 = .ok (.getfield 104, 3) := by decide +kernel
theorem dX9_digest_136 : decode cX9_digest 136 = .ok (.if_icmp .ge 93, 3) := by decide +kernel
theorem dX9_digest_139 : decode cX9_digest 139 = .ok (.iconst 0, 1) := by decide +kernel
theorem dX9_digest_140 : decode cX9_digest 140 = .ok (.istore 4, 2) := by decide +kernel
theorem dX9_digest_142 : decode cX9_digest 142 = .ok (.iload 4, 2) := by decide +kernel
theorem dX9_digest_144 : decode cX9_digest 144 = .ok (.bipush 7, 2) := by decide +kernel
theorem dX9_digest_146 : decode cX9_digest 146 = .ok (.if_icmp .gt 24, 3) := by decide +kernel
theorem dX9_digest_149 : decode cX9_digest 149 = .ok (.lload_n 1, 1) := by decide +kernel
theorem dX9_digest_150 : decode cX9_digest 150 = .ok (.ldc2_w 263, 3) := by decide +kernel
theorem dX9_digest_153 : decode cX9_digest 153 = .ok (.lmul, 1) := by decide +kernel
theorem dX9_digest_154 : decode cX9_digest 154 = .ok (.aload_n 0, 1) := by decide +kernel
theorem dX9_digest_155 : decode cX9_digest 155 = .ok (.iload_n 3, 1) := by decide +kernel
theorem dX9_digest_156 : decode cX9_digest 156 = .ok (.iload 4, 2) := by decide +kernel
theorem dX9_digest_158 : decode cX9_digest 158 = .ok (.invokevirtual 170, 3) := by decide +kernel
theorem dX9_digest_161 : decode cX9_digest 161 = .ok (.i2l, 1) := by decide +kernel
theorem dX9_digest_162 : decode cX9_digest 162 = .ok (.ladd, 1) := by decide +kernel
theorem dX9_digest_163 : decode cX9_digest 163 = .ok (.lstore_n 1, 1) := by decide +kernel
theorem dX9_digest_164 : decode cX9_digest 164 = .ok (.iinc 4 1, 3) := by decide +kernel
theorem dX9_digest_167 : decode cX9_digest 167 = .ok (.goto (-25), 3) := by decide +kernel
theorem dX9_digest_170 : decode cX9_digest 170 = .ok (.iconst 0, 1) := by decide +kernel
theorem dX9_digest_171 : decode cX9_digest 171 = .ok (.istore 4, 2) := by decide +kernel
theorem dX9_digest_173 : decode cX9_digest 173 = .ok (.iload 4, 2) := by decide +kernel
theorem dX9_digest_175 : decode cX9_digest 175 = .ok (.aload_n 0, 1) := by decide +kernel
theorem dX9_digest_176 : decode cX9_digest 176 = .ok (.getfield 33, 3) := by decide +kernel
theorem dX9_digest_179 : decode cX9_digest 179 = .ok (.iload_n 3, 1) := by decide +kernel
theorem dX9_digest_180 : decode cX9_digest 180 = .ok (.aaload, 1) := by decide +kernel
theorem dX9_digest_181 : decode cX9_digest 181 = .ok (.arraylength, 1) := by decide +kernel
theorem dX9_digest_182 : decode cX9_digest 182 = .ok (.if_icmp .ge 41, 3) := by decide +kernel
theorem dX9_digest_185 : decode cX9_digest 185 = .ok (.lload_n 1, 1) := by decide +kernel
theorem dX9_digest_186 : decode cX9_digest 186 = .ok (.ldc2_w 263, 3) := by decide +kernel
theorem dX9_digest_189 : decode cX9_digest 189 = .ok (.lmul, 1) := by decide +kernel
theorem dX9_digest_190 : decode cX9_digest 190 = .ok (.aload_n 0, 1) := by decide +kernel
theorem dX9_digest_191 : decode cX9_digest 191 = .ok (.getfield 33, 3) := by decide +kernel
theorem dX9_digest_194 : decode cX9_digest 194 = .ok (.iload_n 3, 1) := by decide +kernel
theorem dX9_digest_195 : decode cX9_digest 195 = .ok (.aaload, 1) := by decide +kernel
theorem dX9_digest_196 : decode cX9_digest 196 = .ok (.iload 4, 2) := by decide +kernel
theorem dX9_digest_198 : decode cX9_digest 198 = .ok (.iaload, 1) := by decide +kernel
theorem dX9_digest_199 : decode cX9_digest 199 = .ok (.i2l, 1) := by decide +kernel
theorem dX9_digest_200 : decode cX9_digest 200 = .ok (.ladd, 1) := by decide +kernel
theorem dX9_digest_201 : decode cX9_digest 201 = .ok (.ldc2_w 263, 3) := by decide +kernel
theorem dX9_digest_204 : decode cX9_digest 204 = .ok (.lmul, 1) := by decide +kernel
theorem dX9_digest_205 : decode cX9_digest 205 = .ok (.aload_n 0, 1) := by decide +kernel
theorem dX9_digest_206 : decode cX9_digest 206 = .ok (.getfield 37, 3) := by decide +kernel
theorem dX9_digest_209 : decode cX9_digest 209 = .ok (.iload_n 3, 1) := by decide +kernel
theorem dX9_digest_210 : decode cX9_digest 210 = .ok (.aaload, 1) := by decide +kernel
theorem dX9_digest_211 : decode cX9_digest 211 = .ok (.iload 4, 2) := by decide +kernel
theorem dX9_digest_213 : decode cX9_digest 213 = .ok (.iaload, 1) := by decide +kernel
theorem dX9_digest_214 : decode cX9_digest 214 = .ok (.i2l, 1) := by decide +kernel
theorem dX9_digest_215 : decode cX9_digest 215 = .ok (.ladd, 1) := by decide +kernel
theorem dX9_digest_216 : decode cX9_digest 216 = .ok (.lstore_n 1, 1) := by decide +kernel
theorem dX9_digest_217 : decode cX9_digest 217 = .ok (.iinc 4 1, 3) := by decide +kernel
theorem dX9_digest_220 : decode cX9_digest 220 = .ok (.goto (-47), 3) := by decide +kernel
theorem dX9_digest_223 : decode cX9_digest 223 = .ok (.iinc 3 1, 3) := by decide +kernel
theorem dX9_digest_226 : decode cX9_digest 226 = .ok (.goto (-95), 3) := by decide +kernel
theorem dX9_digest_229 : decode cX9_digest 229 = .ok (.iconst 0, 1) := by decide +kernel
theorem dX9_digest_230 : decode cX9_digest 230 = .ok (.istore_n 3, 1) := by decide +kernel
theorem dX9_digest_231 : decode cX9_digest 231 = .ok (.iload_n 3, 1) := by decide +kernel
theorem dX9_digest_232 : decode cX9_digest 232 = .ok (.aload_n 0, 1) := by decide +kernel
theorem dX9_digest_233 : decode cX9_digest 233 = .ok (.getfield 107, 3) := by decide +kernel
theorem dX9_digest_236 : decode cX9_digest 236 = .ok (.if_icmp .ge 92, 3) := by decide +kernel
theorem dX9_digest_239 : decode cX9_digest 239 = .ok (.iconst 0, 1) := by decide +kernel
theorem dX9_digest_240 : decode cX9_digest 240 = .ok (.istore 4, 2) := by decide +kernel
theorem dX9_digest_242 : decode cX9_digest 242 = .ok (.iload 4, 2) := by decide +kernel
theorem dX9_digest_244 : decode cX9_digest 244 = .ok (.bipush 6, 2) := by decide +kernel
theorem dX9_digest_246 : decode cX9_digest 246 = .ok (.if_icmp .gt 24, 3) := by decide +kernel
theorem dX9_digest_249 : decode cX9_digest 249 = .ok (.lload_n 1, 1) := by decide +kernel
theorem dX9_digest_250 : decode cX9_digest 250 = .ok (.ldc2_w 263, 3) := by decide +kernel
theorem dX9_digest_253 : decode cX9_digest 253 = .ok (.lmul, 1) := by decide +kernel
theorem dX9_digest_254 : decode cX9_digest 254 = .ok (.aload_n 0, 1) := by decide +kernel
theorem dX9_digest_255 : decode cX9_digest 255 = .ok (.iload_n 3, 1) := by decide +kernel
theorem dX9_digest_256 : decode cX9_digest 256 = .ok (.iload 4, 2) := by decide +kernel
theorem dX9_digest_258 : decode cX9_digest 258 = .ok (.invokevirtual 241, 3) := by decide +kernel
theorem dX9_digest_261 : decode cX9_digest 261 = .ok (.i2l, 1) := by decide +kernel
theorem dX9_digest_262 : decode cX9_digest 262 = .ok (.ladd, 1) := by decide +kernel
theorem dX9_digest_263 : decode cX9_digest 263 = .ok (.lstore_n 1, 1) := by decide +kernel
theorem dX9_digest_264 : decode cX9_digest 264 = .ok (.iinc 4 1, 3) := by decide +kernel
theorem dX9_digest_267 : decode cX9_digest 267 = .ok (.goto (-25), 3) := by decide +kernel
theorem dX9_digest_270 : decode cX9_digest 270 = .ok (.iconst 0, 1) := by decide +kernel
theorem dX9_digest_271 : decode cX9_digest 271 = .ok (.istore 4, 2) := by decide +kernel
theorem dX9_digest_273 : decode cX9_digest 273 = .ok (.iload 4, 2) := by decide +kernel
theorem dX9_digest_275 : decode cX9_digest 275 = .ok (.aload_n 0, 1) := by decide +kernel
theorem dX9_digest_276 : decode cX9_digest 276 = .ok (.getfield 55, 3) := by decide +kernel
theorem dX9_digest_279 : decode cX9_digest 279 = .ok (.iload_n 3, 1) := by decide +kernel
theorem dX9_digest_280 : decode cX9_digest 280 = .ok (.iaload, 1) := by decide +kernel
theorem dX9_digest_281 : decode cX9_digest 281 = .ok (.if_icmp .ge 41, 3) := by decide +kernel
theorem dX9_digest_284 : decode cX9_digest 284 = .ok (.iconst 0, 1) := by decide +kernel
theorem dX9_digest_285 : decode cX9_digest 285 = .ok (.istore 5, 2) := by decide +kernel
theorem dX9_digest_287 : decode cX9_digest 287 = .ok (.iload 5, 2) := by decide +kernel
theorem dX9_digest_289 : decode cX9_digest 289 = .ok (.iconst 3, 1) := by decide +kernel
theorem dX9_digest_290 : decode cX9_digest 290 = .ok (.if_icmp .gt 26, 3) := by decide +kernel
theorem dX9_digest_293 : decode cX9_digest 293 = .ok (.lload_n 1, 1) := by decide +kernel
theorem dX9_digest_294 : decode cX9_digest 294 = .ok (.ldc2_w 263, 3) := by decide +kernel
theorem dX9_digest_297 : decode cX9_digest 297 = .ok (.lmul, 1) := by decide +kernel
theorem dX9_digest_298 : decode cX9_digest 298 = .ok (.aload_n 0, 1) := by decide +kernel
theorem dX9_digest_299 : decode cX9_digest 299 = .ok (.iload_n 3, 1) := by decide +kernel
theorem dX9_digest_300 : decode cX9_digest 300 = .ok (.iload 4, 2) := by decide +kernel
theorem dX9_digest_302 : decode cX9_digest 302 = .ok (.iload 5, 2) := by decide +kernel
theorem dX9_digest_304 : decode cX9_digest 304 = .ok (.invokevirtual 235, 3) := by decide +kernel
theorem dX9_digest_307 : decode cX9_digest 307 = .ok (.i2l, 1) := by decide +kernel
theorem dX9_digest_308 : decode cX9_digest 308 = .ok (.ladd, 1) := by decide +kernel
theorem dX9_digest_309 : decode cX9_digest 309 = .ok (.lstore_n 1, 1) := by decide +kernel
theorem dX9_digest_310 : decode cX9_digest 310 = .ok (.iinc 5 1, 3) := by decide +kernel
theorem dX9_digest_313 : decode cX9_digest 313 = .ok (.goto (-26), 3) := by decide +kernel
theorem dX9_digest_316 : decode cX9_digest 316 = .ok (.iinc 4 1, 3) := by decide +kernel
theorem dX9_digest_319 : decode cX9_digest 319 = .ok (.goto (-46), 3) := by decide +kernel
theorem dX9_digest_322 : decode cX9_digest 322 = .ok (.iinc 3 1, 3) := by decide +kernel
theorem dX9_digest_325 : decode cX9_digest 325 = .ok (.goto (-94), 3) := by decide +kernel
theorem dX9_digest_328 : decode cX9_digest 328 = .ok (.iconst 0, 1) := by decide +kernel
theorem dX9_digest_329 : decode cX9_digest 329 = .ok (.istore_n 3, 1) := by decide +kernel
theorem dX9_digest_330 : decode cX9_digest 330 = .ok (.iload_n 3, 1) := by decide +kernel
theorem dX9_digest_331 : decode cX9_digest 331 = .ok (.aload_n 0, 1) := by decide +kernel
theorem dX9_digest_332 : decode cX9_digest 332 = .ok (.getfield 182, 3) := by decide +kernel
theorem dX9_digest_335 : decode cX9_digest 335 = .ok (.if_icmp .ge 39, 3) := by decide +kernel
theorem dX9_digest_338 : decode cX9_digest 338 = .ok (.iconst 0, 1) := by decide +kernel
theorem dX9_digest_339 : decode cX9_digest 339 = .ok (.istore 4, 2) := by decide +kernel
theorem dX9_digest_341 : decode cX9_digest 341 = .ok (.iload 4, 2) := by decide +kernel
theorem dX9_digest_343 : decode cX9_digest 343 = .ok (.iconst 4, 1) := by decide +kernel
theorem dX9_digest_344 : decode cX9_digest 344 = .ok (.if_icmp .gt 24, 3) := by decide +kernel
theorem dX9_digest_347 : decode cX9_digest 347 = .ok (.lload_n 1, 1) := by decide +kernel
theorem dX9_digest_348 : decode cX9_digest 348 = .ok (.ldc2_w 263, 3) := by decide +kernel
theorem dX9_digest_351 : decode cX9_digest 351 = .ok (.lmul, 1) := by decide +kernel
theorem dX9_digest_352 : decode cX9_digest 352 = .ok (.aload_n 0, 1) := by decide +kernel
theorem dX9_digest_353 : decode cX9_digest 353 = .ok (.iload_n 3, 1) := by decide +kernel
theorem dX9_digest_354 : decode cX9_digest 354 = .ok (.iload 4, 2) := by decide +kernel
theorem dX9_digest_356 : decode cX9_digest 356 = .ok (.invokevirtual 247, 3) := by decide +kernel
theorem dX9_digest_359 : decode cX9_digest 359 = .ok (.i2l, 1) := by decide +kernel
theorem dX9_digest_360 : decode cX9_digest 360 = .ok (.ladd, 1) := by decide +kernel
theorem dX9_digest_361 : decode cX9_digest 361 = .ok (.lstore_n 1, 1) := by decide +kernel
theorem dX9_digest_362 : decode cX9_digest 362 = .ok (.iinc 4 1, 3) := by decide +kernel
theorem dX9_digest_365 : decode cX9_digest 365 = .ok (.goto (-24), 3) := by decide +kernel
theorem dX9_digest_368 : decode cX9_digest 368 = .ok (.iinc 3 1, 3) := by decide +kernel
theorem dX9_digest_371 : decode cX9_digest 371 = .ok (.goto (-41), 3) := by decide +kernel
theorem dX9_digest_374 : decode cX9_digest 374 = .ok (.iconst 0, 1) := by decide +kernel
theorem dX9_digest_375 : decode cX9_digest 375 = .ok (.istore_n 3, 1) := by decide +kernel
theorem dX9_digest_376 : decode cX9_digest 376 = .ok (.iload_n 3, 1) := by decide +kernel
theorem dX9_digest_377 : decode cX9_digest 377 = .ok (.aload_n 0, 1) := by decide +kernel
theorem dX9_digest_378 : decode cX9_digest 378 = .ok (.getfield 210, 3) := by decide +kernel
theorem dX9_digest_381 : decode cX9_digest 381 = .ok (.if_icmp .ge 23, 3) := by decide +kernel
theorem dX9_digest_384 : decode cX9_digest 384 = .ok (.lload_n 1, 1) := by decide +kernel
theorem dX9_digest_385 : decode cX9_digest 385 = .ok (.ldc2_w 263, 3) := by decide +kernel
theorem dX9_digest_388 : decode cX9_digest 388 = .ok (.lmul, 1) := by decide +kernel
theorem dX9_digest_389 : decode cX9_digest 389 = .ok (.aload_n 0, 1) := by decide +kernel
theorem dX9_digest_390 : decode cX9_digest 390 = .ok (.getfield 17, 3) := by decide +kernel
theorem dX9_digest_393 : decode cX9_digest 393 = .ok (.iload_n 3, 1) := by decide +kernel
theorem dX9_digest_394 : decode cX9_digest 394 = .ok (.iaload, 1) := by decide +kernel
theorem dX9_digest_395 : decode cX9_digest 395 = .ok (.i2l, 1) := by decide +kernel
theorem dX9_digest_396 : decode cX9_digest 396 = .ok (.ladd, 1) := by decide +kernel
theorem dX9_digest_397 : decode cX9_digest 397 = .ok (.lstore_n 1, 1) := by decide +kernel
theorem dX9_digest_398 : decode cX9_digest 398 = .ok (.iinc 3 1, 3) := by decide +kernel
theorem dX9_digest_401 : decode cX9_digest 401 = .ok (.goto (-25), 3) := by decide +kernel
theorem dX9_digest_404 : decode cX9_digest 404 = .ok (.lload_n 1, 1) := by decide +kernel
theorem dX9_digest_405 : decode cX9_digest 405 = .ok (.lreturn, 1) := by decide +kernel
theorem dJ6_bitCount_0f7a4_0 : decode cJ6_bitCount_0f7a4 0 = .ok (.iload_n 0, 1) := by decide +kernel
theorem dJ6_bitCount_0f7a4_1 : decode cJ6_bitCount_0f7a4 1 = .ok (.iload_n 0, 1) := by decide +kernel
theorem dJ6_bitCount_0f7a4_2 : decode cJ6_bitCount_0f7a4 2 = .ok (.iconst 1, 1) := by decide +kernel
theorem dJ6_bitCount_0f7a4_3 : decode cJ6_bitCount_0f7a4 3 = .ok (.iushr, 1) := by decide +kernel
theorem dJ6_bitCount_0f7a4_4 : decode cJ6_bitCount_0f7a4 4 = .ok (.ldc_w 265, 3) := by decide +kernel
theorem dJ6_bitCount_0f7a4_7 : decode cJ6_bitCount_0f7a4 7 = .ok (.iand, 1) := by decide +kernel
theorem dJ6_bitCount_0f7a4_8 : decode cJ6_bitCount_0f7a4 8 = .ok (.isub, 1) := by decide +kernel
theorem dJ6_bitCount_0f7a4_9 : decode cJ6_bitCount_0f7a4 9 = .ok (.istore_n 0, 1) := by decide +kernel
theorem dJ6_bitCount_0f7a4_10 : decode cJ6_bitCount_0f7a4 10 = .ok (.iload_n 0, 1) := by decide +kernel
theorem dJ6_bitCount_0f7a4_11 : decode cJ6_bitCount_0f7a4 11 = .ok (.ldc_w 266, 3) := by decide +kernel
theorem dJ6_bitCount_0f7a4_14 : decode cJ6_bitCount_0f7a4 14 = .ok (.iand, 1) := by decide +kernel
theorem dJ6_bitCount_0f7a4_15 : decode cJ6_bitCount_0f7a4 15 = .ok (.iload_n 0, 1) := by decide +kernel
theorem dJ6_bitCount_0f7a4_16 : decode cJ6_bitCount_0f7a4 16 = .ok (.iconst 2, 1) := by decide +kernel
theorem dJ6_bitCount_0f7a4_17 : decode cJ6_bitCount_0f7a4 17 = .ok (.iushr, 1) := by decide +kernel
theorem dJ6_bitCount_0f7a4_18 : decode cJ6_bitCount_0f7a4 18 = .ok (.ldc_w 266, 3) := by decide +kernel
theorem dJ6_bitCount_0f7a4_21 : decode cJ6_bitCount_0f7a4 21 = .ok (.iand, 1) := by decide +kernel
theorem dJ6_bitCount_0f7a4_22 : decode cJ6_bitCount_0f7a4 22 = .ok (.iadd, 1) := by decide +kernel
theorem dJ6_bitCount_0f7a4_23 : decode cJ6_bitCount_0f7a4 23 = .ok (.istore_n 0, 1) := by decide +kernel
theorem dJ6_bitCount_0f7a4_24 : decode cJ6_bitCount_0f7a4 24 = .ok (.iload_n 0, 1) := by decide +kernel
theorem dJ6_bitCount_0f7a4_25 : decode cJ6_bitCount_0f7a4 25 = .ok (.iload_n 0, 1) := by decide +kernel
theorem dJ6_bitCount_0f7a4_26 : decode cJ6_bitCount_0f7a4 26 = .ok (.iconst 4, 1) := by decide +kernel
theorem dJ6_bitCount_0f7a4_27 : decode cJ6_bitCount_0f7a4 27 = .ok (.iushr, 1) := by decide +kernel
theorem dJ6_bitCount_0f7a4_28 : decode cJ6_bitCount_0f7a4 28 = .ok (.iadd, 1) := by decide +kernel
theorem dJ6_bitCount_0f7a4_29 : decode cJ6_bitCount_0f7a4 29 = .ok (.ldc_w 267, 3) := by decide +kernel
theorem dJ6_bitCount_0f7a4_32 : decode cJ6_bitCount_0f7a4 32 = .ok (.iand, 1) := by decide +kernel
theorem dJ6_bitCount_0f7a4_33 : decode cJ6_bitCount_0f7a4 33 = .ok (.istore_n 0, 1) := by decide +kernel
theorem dJ6_bitCount_0f7a4_34 : decode cJ6_bitCount_0f7a4 34 = .ok (.iload_n 0, 1) := by decide +kernel
theorem dJ6_bitCount_0f7a4_35 : decode cJ6_bitCount_0f7a4 35 = .ok (.iload_n 0, 1) := by decide +kernel
theorem dJ6_bitCount_0f7a4_36 : decode cJ6_bitCount_0f7a4 36 = .ok (.bipush 8, 2) := by decide +kernel
theorem dJ6_bitCount_0f7a4_38 : decode cJ6_bitCount_0f7a4 38 = .ok (.iushr, 1) := by decide +kernel
theorem dJ6_bitCount_0f7a4_39 : decode cJ6_bitCount_0f7a4 39 = .ok (.iadd, 1) := by decide +kernel
theorem dJ6_bitCount_0f7a4_40 : decode cJ6_bitCount_0f7a4 40 = .ok (.istore_n 0, 1) := by decide +kernel
theorem dJ6_bitCount_0f7a4_41 : decode cJ6_bitCount_0f7a4 41 = .ok (.iload_n 0, 1) := by decide +kernel
theorem dJ6_bitCount_0f7a4_42 : decode cJ6_bitCount_0f7a4 42 = .ok (.iload_n 0, 1) := by decide +kernel
theorem dJ6_bitCount_0f7a4_43 : decode cJ6_bitCount_0f7a4 43 = .ok (.bipush 16, 2) := by decide +kernel
theorem dJ6_bitCount_0f7a4_45 : decode cJ6_bitCount_0f7a4 45 = .ok (.iushr, 1) := by decide +kernel
theorem dJ6_bitCount_0f7a4_46 : decode cJ6_bitCount_0f7a4 46 = .ok (.iadd, 1) := by decide +kernel
theorem dJ6_bitCount_0f7a4_47 : decode cJ6_bitCount_0f7a4 47 = .ok (.istore_n 0, 1) := by decide +kernel
theorem dJ6_bitCount_0f7a4_48 : decode cJ6_bitCount_0f7a4 48 = .ok (.iload_n 0, 1) := by decide +kernel
theorem dJ6_bitCount_0f7a4_49 : decode cJ6_bitCount_0f7a4 49 = .ok (.bipush 63, 2) := by decide +kernel
theorem dJ6_bitCount_0f7a4_51 : decode cJ6_bitCount_0f7a4 51 = .ok (.iand, 1) := by decide +kernel
theorem dJ6_bitCount_0f7a4_52 : decode cJ6_bitCount_0f7a4 52 = .ok (.ireturn, 1) := by decide +kernel
theorem dJ9_max_7cf53_0 : decode cJ9_max_7cf53 0 = .ok (.iload_n 0, 1) := by decide +kernel
theorem dJ9_max_7cf53_1 : decode cJ9_max_7cf53 1 = .ok (.iload_n 1, 1) := by decide +kernel
theorem dJ9_max_7cf53_2 : decode cJ9_max_7cf53 2 = .ok (.if_icmp .lt 7, 3) := by decide +kernel
theorem dJ9_max_7cf53_5 : decode cJ9_max_7cf53 5 = .ok (.iload_n 0, 1) := by decide +kernel
theorem dJ9_max_7cf53_6 : decode cJ9_max_7cf53 6 = .ok (.goto 4, 3) := by decide +kernel
theorem dJ9_max_7cf53_9 : decode cJ9_max_7cf53 9 = .ok (.iload_n 1, 1) := by decide +kernel
theorem dJ9_max_7cf53_10 : decode cJ9_max_7cf53 10 = .ok (.ireturn, 1) := by decide +kernel
theorem dJ9_min_7cf53_0 : decode cJ9_min_7cf53 0 = .ok (.iload_n 0, 1) := by decide +kernel
theorem dJ9_min_7cf53_1 : decode cJ9_min_7cf53 1 = .ok (.iload_n 1, 1) := by decide +kernel
theorem dJ9_min_7cf53_2 : decode cJ9_min_7cf53 2 = .ok (.if_icmp .gt 7, 3) := by decide +kernel
theorem dJ9_min_7cf53_5 : decode cJ9_min_7cf53 5 = .ok (.iload_n 0, 1) := by decide +kernel
theorem dJ9_min_7cf53_6 : decode cJ9_min_7cf53 6 = .ok (.goto 4, 3) := by decide +kernel
theorem dJ9_min_7cf53_9 : decode cJ9_min_7cf53 9 = .ok (.iload_n 1, 1) := by decide +kernel
theorem dJ9_min_7cf53_10 : decode cJ9_min_7cf53 10 = .ok (.ireturn, 1) := by decide +kernel
theorem dJxa1e45_init_da8c8_0 : decode cJxa1e45_init_da8c8 0 = .ok (.aload_n 0, 1) := by decide +kernel
theorem dJxa1e45_init_da8c8_1 : decode cJxa1e45_init_da8c8 1 = .ok (.invokespecial 1, 3) := by decide +kernel
theorem dJxa1e45_init_da8c8_4 : decode cJxa1e45_init_da8c8 4 = .ok (.return_, 1) := by decide +kernel
theorem dJxc12de_init_da8c8_0 : decode cJxc12de_init_da8c8 0 = .ok (.aload_n 0, 1) := by decide +kernel
theorem dJxc12de_init_da8c8_1 : decode cJxc12de_init_da8c8 1 = .ok (.invokespecial 1, 3) := by decide +kernel
theorem dJxc12de_init_da8c8_4 : decode cJxc12de_init_da8c8 4 = .ok (.aload_n 0, 1) := by decide +kernel
theorem dJxc12de_init_da8c8_5 : decode cJxc12de_init_da8c8 5 = .ok (.iconst 0, 1) := by decide +kernel
theorem dJxc12de_init_da8c8_6 : decode cJxc12de_init_da8c8 6 = .ok (.putfield 7, 3) := by decide +kernel
theorem dJxc12de_init_da8c8_9 : decode cJxc12de_init_da8c8 9 = .ok (.return_, 1) := by decide +kernel
theorem dJx4a65c_init_da8c8_0 : decode cJx4a65c_init_da8c8 0 = .ok (.aload_n 0, 1) := by decide +kernel
theorem dJx4a65c_init_da8c8_1 : decode cJx4a65c_init_da8c8 1 = .ok (.invokespecial 1, 3) := by decide +kernel
theorem dJx4a65c_init_da8c8_4 : decode cJx4a65c_init_da8c8 4 = .ok (.aload_n 0, 1) := by decide +kernel
theorem dJx4a65c_init_da8c8_5 : decode cJx4a65c_init_da8c8 5 = .ok (.getstatic 39, 3) := by decide +kernel
theorem dJx4a65c_init_da8c8_8 : decode cJx4a65c_init_da8c8 8 = .ok (.putfield 9, 3) := by decide +kernel
theorem dJx4a65c_init_da8c8_11 : decode cJx4a65c_init_da8c8 11 = .ok (.return_, 1) := by decide +kernel
theorem dJx4a65c_grow_92f84_0 : decode cJx4a65c_grow_92f84 0 = .ok (.aload_n 0, 1) := by decide +kernel
theorem dJx4a65c_grow_92f84_1 : decode cJx4a65c_grow_92f84 1 = .ok (.getfield 9, 3) := by decide +kernel
theorem dJx4a65c_grow_92f84_4 : decode cJx4a65c_grow_92f84 4 = .ok (.arraylength, 1) := by decide +kernel
theorem dJx4a65c_grow_92f84_5 : decode cJx4a65c_grow_92f84 5 = .ok (.istore_n 2, 1) := by decide +kernel
theorem dJx4a65c_grow_92f84_6 : decode cJx4a65c_grow_92f84 6 = .ok (.iload_n 2, 1) := by decide +kernel
theorem dJx4a65c_grow_92f84_7 : decode cJx4a65c_grow_92f84 7 = .ok (.ifCond .gt 13, 3) := by decide +kernel
theorem dJx4a65c_grow_92f84_10 : decode cJx4a65c_grow_92f84 10 = .ok (.aload_n 0, 1) := by decide +kernel
theorem dJx4a65c_grow_92f84_11 : decode cJx4a65c_grow_92f84 11 = .ok (.getfield 9, 3) := by decide +kernel
theorem dJx4a65c_grow_92f84_14 : decode cJx4a65c_grow_92f84 14 = .ok (.getstatic 39, 3) := by decide +kernel
theorem dJx4a65c_grow_92f84_17 : decode cJx4a65c_grow_92f84 17 = .ok (.if_acmp .eq 28, 3) := by decide +kernel
theorem dJx4a65c_grow_92f84_20 : decode cJx4a65c_grow_92f84 20 = .ok (.iload_n 2, 1) := by decide +kernel
theorem dJx4a65c_grow_92f84_21 : decode cJx4a65c_grow_92f84 21 = .ok (.iload_n 1, 1) := by decide +kernel
theorem dJx4a65c_grow_92f84_22 : decode cJx4a65c_grow_92f84 22 = .ok (.iload_n 2, 1) := by decide +kernel
theorem dJx4a65c_grow_92f84_23 : decode cJx4a65c_grow_92f84 23 = .ok (.isub, 1) := by decide +kernel
theorem dJx4a65c_grow_92f84_24 : decode cJx4a65c_grow_92f84 24 = .ok (.iload_n 2, 1) := by decide +kernel
theorem dJx4a65c_grow_92f84_25 : decode cJx4a65c_grow_92f84 25 = .ok (.iconst 1, 1) := by decide +kernel
theorem dJx4a65c_grow_92f84_26 : decode cJx4a65c_grow_92f84 26 = .ok (.ishr, 1) := by decide +kernel
theorem dJx4a65c_grow_92f84_27 : decode cJx4a65c_grow_92f84 27 = .ok (.invokestatic 73, 3) := by decide +kernel
theorem dJx4a65c_grow_92f84_30 : decode cJx4a65c_grow_92f84 30 = .ok (.istore_n 3, 1) := by decide +kernel
theorem dJx4a65c_grow_92f84_31 : decode cJx4a65c_grow_92f84 31 = .ok (.aload_n 0, 1) := by decide +kernel
theorem dJx4a65c_grow_92f84_32 : decode cJx4a65c_grow_92f84 32 = .ok (.aload_n 0, 1) := by decide +kernel
theorem dJx4a65c_grow_92f84_33 : decode cJx4a65c_grow_92f84 33 = .ok (.getfield 9, 3) := by decide +kernel
theorem dJx4a65c_grow_92f84_36 : decode cJx4a65c_grow_92f84 36 = .ok (.iload_n 3, 1) := by decide +kernel
theorem dJx4a65c_grow_92f84_37 : decode cJx4a65c_grow_92f84 37 = .ok (.invokestatic 66, 3) := by decide +kernel
theorem dJx4a65c_grow_92f84_40 : decode cJx4a65c_grow_92f84 40 = .ok (.dup_x1, 1) := by decide +kernel
theorem dJx4a65c_grow_92f84_41 : decode cJx4a65c_grow_92f84 41 = .ok (.putfield 9, 3) := by decide +kernel
theorem dJx4a65c_grow_92f84_44 : decode cJx4a65c_grow_92f84 44 = .ok (.areturn, 1) := by decide +kernel
theorem dJx4a65c_grow_92f84_45 : decode cJx4a65c_grow_92f84 45 = .ok (.aload_n 0, 1) := by decide +kernel
theorem dJx4a65c_grow_92f84_46 : decode cJx4a65c_grow_92f84 46 = .ok (.bipush 10, 2) := by decide +kernel
theorem dJx4a65c_grow_92f84_48 : decode cJx4a65c_grow_92f84 48 = .ok (.iload_n 1, 1) := by decide +kernel
theorem dJx4a65c_grow_92f84_49 : decode cJx4a65c_grow_92f84 49 = .ok (.invokestatic 79, 3) := by decide +kernel
theorem dJx4a65c_grow_92f84_52 : decode cJx4a65c_grow_92f84 52 = .ok (.anewarray 7, 3) := by decide +kernel
theorem dJx4a65c_grow_92f84_55 : decode cJx4a65c_grow_92f84 55 = .ok (.dup_x1, 1) := by decide +kernel
theorem dJx4a65c_grow_92f84_56 : decode cJx4a65c_grow_92f84 56 = .ok (.putfield 9, 3) := by decide +kernel
theorem dJx4a65c_grow_92f84_59 : decode cJx4a65c_grow_92f84 59 = .ok (.areturn, 1) := by decide +kernel
theorem dJx4a65c_grow_d5877_0 : decode cJx4a65c_grow_d5877 0 = .ok (.aload_n 0, 1) := by decide +kernel
theorem dJx4a65c_grow_d5877_1 : decode cJx4a65c_grow_d5877 1 = .ok (.aload_n 0, 1) := by decide +kernel
theorem dJx4a65c_grow_d5877_2 : decode cJx4a65c_grow_d5877 2 = .ok (.getfield 48, 3) := by decide +kernel
theorem dJx4a65c_grow_d5877_5 : decode cJx4a65c_grow_d5877 5 = .ok (.iconst 1, 1) := by decide +kernel
theorem dJx4a65c_grow_d5877_6 : decode cJx4a65c_grow_d5877 6 = .ok (.iadd, 1) := by decide +kernel
theorem dJx4a65c_grow_d5877_7 : decode cJx4a65c_grow_d5877 7 = .ok (.invokevirtual 69, 3) := by decide +kernel
theorem dJx4a65c_grow_d5877_10 : decode cJx4a65c_grow_d5877 10 = .ok (.areturn, 1) := by decide +kernel
theorem dJx4a65c_size_8abf5_0 : decode cJx4a65c_size_8abf5 0 = .ok (.aload_n 0, 1) := by decide +kernel
theorem dJx4a65c_size_8abf5_1 : decode cJx4a65c_size_8abf5 1 = .ok (.getfield 48, 3) := by decide +kernel
theorem dJx4a65c_size_8abf5_4 : decode cJx4a65c_size_8abf5 4 = .ok (.ireturn, 1) := by decide +kernel
theorem dJx4a65c_elementData_915e3_0 : decode cJx4a65c_elementData_915e3 0 = .ok (.aload_n 0, 1) := by decide +kernel
theorem dJx4a65c_elementData_915e3_1 : decode cJx4a65c_elementData_915e3 1 = .ok (.getfield 9, 3) := by decide +kernel
theorem dJx4a65c_elementData_915e3_4 : decode cJx4a65c_elementData_915e3 4 = .ok (.iload_n 1, 1) := by decide +kernel
theorem dJx4a65c_elementData_915e3_5 : decode cJx4a65c_elementData_915e3 5 = .ok (.aaload, 1) := by decide +kernel
theorem dJx4a65c_elementData_915e3_6 : decode cJx4a65c_elementData_915e3 6 = .ok (.areturn, 1) := by decide +kernel
theorem dJx4a65c_get_915e3_0 : decode cJx4a65c_get_915e3 0 = .ok (.iload_n 1, 1) := by decide +kernel
theorem dJx4a65c_get_915e3_1 : decode cJx4a65c_get_915e3 1 = .ok (.aload_n 0, 1) := by decide +kernel
theorem dJx4a65c_get_915e3_2 : decode cJx4a65c_get_915e3 2 = .ok (.getfield 48, 3) := by decide +kernel
theorem dJx4a65c_get_915e3_5 : decode cJx4a65c_get_915e3 5 = .ok (.invokestatic 118, 3) := by decide +kernel
theorem dJx4a65c_get_915e3_8 : decode cJx4a65c_get_915e3 8 = .ok (.pop, 1) := by decide +kernel
theorem dJx4a65c_get_915e3_9 : decode cJx4a65c_get_915e3 9 = .ok (.aload_n 0, 1) := by decide +kernel
theorem dJx4a65c_get_915e3_10 : decode cJx4a65c_get_915e3 10 = .ok (.iload_n 1, 1) := by decide +kernel
theorem dJx4a65c_get_915e3_11 : decode cJx4a65c_get_915e3 11 = .ok (.invokevirtual 123, 3) := by decide +kernel
theorem dJx4a65c_get_915e3_14 : decode cJx4a65c_get_915e3 14 = .ok (.areturn, 1) := by decide +kernel
theorem dJx4a65c_add_72be8_0 : decode cJx4a65c_add_72be8 0 = .ok (.iload_n 3, 1) := by decide +kernel
theorem dJx4a65c_add_72be8_1 : decode cJx4a65c_add_72be8 1 = .ok (.aload_n 2, 1) := by decide +kernel
theorem dJx4a65c_add_72be8_2 : decode cJx4a65c_add_72be8 2 = .ok (.arraylength, 1) := by decide +kernel
theorem dJx4a65c_add_72be8_3 : decode cJx4a65c_add_72be8 3 = .ok (.if_icmp .ne 8, 3) := by decide +kernel
theorem dJx4a65c_add_72be8_6 : decode cJx4a65c_add_72be8 6 = .ok (.aload_n 0, 1) := by decide +kernel
theorem dJx4a65c_add_72be8_7 : decode cJx4a65c_add_72be8 7 = .ok (.invokevirtual 129, 3) := by decide +kernel
theorem dJx4a65c_add_72be8_10 : decode cJx4a65c_add_72be8 10 = .ok (.astore_n 2, 1) := by decide +kernel
theorem dJx4a65c_add_72be8_11 : decode cJx4a65c_add_72be8 11 = .ok (.aload_n 2, 1) := by decide +kernel
theorem dJx4a65c_add_72be8_12 : decode cJx4a65c_add_72be8 12 = .ok (.iload_n 3, 1) := by decide +kernel
theorem dJx4a65c_add_72be8_13 : decode cJx4a65c_add_72be8 13 = .ok (.aload_n 1, 1) := by decide +kernel
theorem dJx4a65c_add_72be8_14 : decode cJx4a65c_add_72be8 14 = .ok (.aastore, 1) := by decide +kernel
theorem dJx4a65c_add_72be8_15 : decode cJx4a65c_add_72be8 15 = .ok (.aload_n 0, 1) := by decide +kernel
theorem dJx4a65c_add_72be8_16 : decode cJx4a65c_add_72be8 16 = .ok (.iload_n 3, 1) := by decide +kernel
theorem dJx4a65c_add_72be8_17 : decode cJx4a65c_add_72be8 17 = .ok (.iconst 1, 1) := by decide +kernel
theorem dJx4a65c_add_72be8_18 : decode cJx4a65c_add_72be8 18 = .ok (.iadd, 1) := by decide +kernel
theorem dJx4a65c_add_72be8_19 : decode cJx4a65c_add_72be8 19 = .ok (.putfield 48, 3) := by decide +kernel
theorem dJx4a65c_add_72be8_22 : decode cJx4a65c_add_72be8 22 = .ok (.return_, 1) := by decide +kernel
theorem dJx4a65c_add_9ea2d_0 : decode cJx4a65c_add_9ea2d 0 = .ok (.aload_n 0, 1) := by decide +kernel
theorem dJx4a65c_add_9ea2d_1 : decode cJx4a65c_add_9ea2d 1 = .ok (.dup, 1) := by decide +kernel
theorem dJx4a65c_add_9ea2d_2 : decode cJx4a65c_add_9ea2d 2 = .ok (.getfield 63, 3) := by decide +kernel
theorem dJx4a65c_add_9ea2d_5 : decode cJx4a65c_add_9ea2d 5 = .ok (.iconst 1, 1) := by decide +kernel
theorem dJx4a65c_add_9ea2d_6 : decode cJx4a65c_add_9ea2d 6 = .ok (.iadd, 1) := by decide +kernel
theorem dJx4a65c_add_9ea2d_7 : decode cJx4a65c_add_9ea2d 7 = .ok (.putfield 63, 3) := by decide +kernel
theorem dJx4a65c_add_9ea2d_10 : decode cJx4a65c_add_9ea2d 10 = .ok (.aload_n 0, 1) := by decide +kernel
theorem dJx4a65c_add_9ea2d_11 : decode cJx4a65c_add_9ea2d 11 = .ok (.aload_n 1, 1) := by decide +kernel
theorem dJx4a65c_add_9ea2d_12 : decode cJx4a65c_add_9ea2d 12 = .ok (.aload_n 0, 1) := by decide +kernel
theorem dJx4a65c_add_9ea2d_13 : decode cJx4a65c_add_9ea2d 13 = .ok (.getfield 9, 3) := by decide +kernel
theorem dJx4a65c_add_9ea2d_16 : decode cJx4a65c_add_9ea2d 16 = .ok (.aload_n 0, 1) := by decide +kernel
theorem dJx4a65c_add_9ea2d_17 : decode cJx4a65c_add_9ea2d 17 = .ok (.getfield 48, 3) := by decide +kernel
theorem dJx4a65c_add_9ea2d_20 : decode cJx4a65c_add_9ea2d 20 = .ok (.invokevirtual 131, 3) := by decide +kernel
theorem dJx4a65c_add_9ea2d_23 : decode cJx4a65c_add_9ea2d 23 = .ok (.iconst 1, 1) := by decide +kernel
theorem dJx4a65c_add_9ea2d_24 : decode cJx4a65c_add_9ea2d 24 = .ok (.ireturn, 1) := by decide +kernel
theorem dJ7_copyOf_1904c_0 : decode cJ7_copyOf_1904c 0 = .ok (.aload_n 0, 1) := by decide +kernel
theorem dJ7_copyOf_1904c_1 : decode cJ7_copyOf_1904c 1 = .ok (.iload_n 1, 1) := by decide +kernel
theorem dJ7_copyOf_1904c_2 : decode cJ7_copyOf_1904c 2 = .ok (.aload_n 0, 1) := by decide +kernel
theorem dJ7_copyOf_1904c_3 : decode cJ7_copyOf_1904c 3 = .ok (.invokevirtual 86, 3) := by decide +kernel
theorem dJ7_copyOf_1904c_6 : decode cJ7_copyOf_1904c 6 = .ok (.invokestatic 300, 3) := by decide +kernel
theorem dJ7_copyOf_1904c_9 : decode cJ7_copyOf_1904c 9 = .ok (.areturn, 1) := by decide +kernel
theorem dJ7_copyOf_6403c_0 : decode cJ7_copyOf_6403c 0 = .ok (.aload_n 2, 1) := by decide +kernel
theorem dJ7_copyOf_6403c_1 : decode cJ7_copyOf_6403c 1 = .ok (.ldc 110, 2) := by decide +kernel
theorem dJ7_copyOf_6403c_3 : decode cJ7_copyOf_6403c 3 = .ok (.if_acmp .ne 10, 3) := by decide +kernel
theorem dJ7_copyOf_6403c_6 : decode cJ7_copyOf_6403c 6 = .ok (.iload_n 1, 1) := by decide +kernel
theorem dJ7_copyOf_6403c_7 : decode cJ7_copyOf_6403c 7 = .ok (.anewarray 2, 3) := by decide +kernel
theorem dJ7_copyOf_6403c_10 : decode cJ7_copyOf_6403c 10 = .ok (.goto 14, 3) := by decide +kernel
theorem dJ7_copyOf_6403c_13 : decode cJ7_copyOf_6403c 13 = .ok (.aload_n 2, 1) := by decide +kernel
theorem dJ7_copyOf_6403c_14 : decode cJ7_copyOf_6403c 14 = .ok (.invokevirtual 90, 3) := by decide +kernel
theorem dJ7_copyOf_6403c_17 : decode cJ7_copyOf_6403c 17 = .ok (.iload_n 1, 1) := by decide +kernel
theorem dJ7_copyOf_6403c_18 : decode cJ7_copyOf_6403c 18 = .ok (.invokestatic 95, 3) := by decide +kernel
theorem dJ7_copyOf_6403c_21 : decode cJ7_copyOf_6403c 21 = .ok (.checkcast 110, 3) := by decide +kernel
theorem dJ7_copyOf_6403c_24 : decode cJ7_copyOf_6403c 24 = .ok (.astore_n 3, 1) := by decide +kernel
theorem dJ7_copyOf_6403c_25 : decode cJ7_copyOf_6403c 25 = .ok (.aload_n 0, 1) := by decide +kernel
theorem dJ7_copyOf_6403c_26 : decode cJ7_copyOf_6403c 26 = .ok (.iconst 0, 1) := by decide +kernel
theorem dJ7_copyOf_6403c_27 : decode cJ7_copyOf_6403c 27 = .ok (.aload_n 3, 1) := by decide +kernel
theorem dJ7_copyOf_6403c_28 : decode cJ7_copyOf_6403c 28 = .ok (.iconst 0, 1) := by decide +kernel
theorem dJ7_copyOf_6403c_29 : decode cJ7_copyOf_6403c 29 = .ok (.aload_n 0, 1) := by decide +kernel
theorem dJ7_copyOf_6403c_30 : decode cJ7_copyOf_6403c 30 = .ok (.arraylength, 1) := by decide +kernel
theorem dJ7_copyOf_6403c_31 : decode cJ7_copyOf_6403c 31 = .ok (.iload_n 1, 1) := by decide +kernel
theorem dJ7_copyOf_6403c_32 : decode cJ7_copyOf_6403c 32 = .ok (.invokestatic 304, 3) := by decide +kernel
theorem dJ7_copyOf_6403c_35 : decode cJ7_copyOf_6403c 35 = .ok (.invokestatic 150, 3) := by decide +kernel
theorem dJ7_copyOf_6403c_38 : decode cJ7_copyOf_6403c 38 = .ok (.aload_n 3, 1) := by decide +kernel
theorem dJ7_copyOf_6403c_39 : decode cJ7_copyOf_6403c 39 = .ok (.areturn, 1) := by decide +kernel
theorem dJ7_copyOf_9075b_0 : decode cJ7_copyOf_9075b 0 = .ok (.iload_n 1, 1) := by decide +kernel
theorem dJ7_copyOf_9075b_1 : decode cJ7_copyOf_9075b 1 = .ok (.aload_n 0, 1) := by decide +kernel
theorem dJ7_copyOf_9075b_2 : decode cJ7_copyOf_9075b 2 = .ok (.arraylength, 1) := by decide +kernel
theorem dJ7_copyOf_9075b_3 : decode cJ7_copyOf_9075b 3 = .ok (.if_icmp .ne 11, 3) := by decide +kernel
theorem dJ7_copyOf_9075b_6 : decode cJ7_copyOf_9075b 6 = .ok (.aload_n 0, 1) := by decide +kernel
theorem dJ7_copyOf_9075b_7 : decode cJ7_copyOf_9075b 7 = .ok (.invokevirtual 310, 3) := by decide +kernel
theorem dJ7_copyOf_9075b_10 : decode cJ7_copyOf_9075b 10 = .ok (.checkcast 311, 3) := by decide +kernel
theorem dJ7_copyOf_9075b_13 : decode cJ7_copyOf_9075b 13 = .ok (.areturn, 1) := by decide +kernel
theorem dJ7_copyOf_9075b_14 : decode cJ7_copyOf_9075b 14 = .ok (.iload_n 1, 1) := by decide +kernel
theorem dJ7_copyOf_9075b_15 : decode cJ7_copyOf_9075b 15 = .ok (.newarray .byte, 2) := by decide +kernel
theorem dJ7_copyOf_9075b_17 : decode cJ7_copyOf_9075b 17 = .ok (.astore_n 2, 1) := by decide +kernel
theorem dJ7_copyOf_9075b_18 : decode cJ7_copyOf_9075b 18 = .ok (.aload_n 0, 1) := by decide +kernel
theorem dJ7_copyOf_9075b_19 : decode cJ7_copyOf_9075b 19 = .ok (.iconst 0, 1) := by decide +kernel
theorem dJ7_copyOf_9075b_20 : decode cJ7_copyOf_9075b 20 = .ok (.aload_n 2, 1) := by decide +kernel
theorem dJ7_copyOf_9075b_21 : decode cJ7_copyOf_9075b 21 = .ok (.iconst 0, 1) := by decide +kernel
theorem dJ7_copyOf_9075b_22 : decode cJ7_copyOf_9075b 22 = .ok (.aload_n 0, 1) := by decide +kernel
theorem dJ7_copyOf_9075b_23 : decode cJ7_copyOf_9075b 23 = .ok (.arraylength, 1) := by decide +kernel
theorem dJ7_copyOf_9075b_24 : decode cJ7_copyOf_9075b 24 = .ok (.iload_n 1, 1) := by decide +kernel
theorem dJ7_copyOf_9075b_25 : decode cJ7_copyOf_9075b 25 = .ok (.invokestatic 304, 3) := by decide +kernel
theorem dJ7_copyOf_9075b_28 : decode cJ7_copyOf_9075b 28 = .ok (.invokestatic 150, 3) := by decide +kernel
theorem dJ7_copyOf_9075b_31 : decode cJ7_copyOf_9075b 31 = .ok (.aload_n 2, 1) := by decide +kernel
theorem dJ7_copyOf_9075b_32 : decode cJ7_copyOf_9075b 32 = .ok (.areturn, 1) := by decide +kernel
theorem dJ7_copyOf_59c91_0 : decode cJ7_copyOf_59c91 0 = .ok (.iload_n 1, 1) := by decide +kernel
theorem dJ7_copyOf_59c91_1 : decode cJ7_copyOf_59c91 1 = .ok (.aload_n 0, 1) := by decide +kernel
theorem dJ7_copyOf_59c91_2 : decode cJ7_copyOf_59c91 2 = .ok (.arraylength, 1) := by decide +kernel
theorem dJ7_copyOf_59c91_3 : decode cJ7_copyOf_59c91 3 = .ok (.if_icmp .ne 11, 3) := by decide +kernel
theorem dJ7_copyOf_59c91_6 : decode cJ7_copyOf_59c91 6 = .ok (.aload_n 0, 1) := by decide +kernel
theorem dJ7_copyOf_59c91_7 : decode cJ7_copyOf_59c91 7 = .ok (.invokevirtual 316, 3) := by decide +kernel
theorem dJ7_copyOf_59c91_10 : decode cJ7_copyOf_59c91 10 = .ok (.checkcast 317, 3) := by decide +kernel
theorem dJ7_copyOf_59c91_13 : decode cJ7_copyOf_59c91 13 = .ok (.areturn, 1) := by decide +kernel
theorem dJ7_copyOf_59c91_14 : decode cJ7_copyOf_59c91 14 = .ok (.iload_n 1, 1) := by decide +kernel
theorem dJ7_copyOf_59c91_15 : decode cJ7_copyOf_59c91 15 = .ok (.newarray .int, 2) := by decide +kernel
theorem dJ7_copyOf_59c91_17 : decode cJ7_copyOf_59c91 17 = .ok (.astore_n 2, 1) := by decide +kernel
theorem dJ7_copyOf_59c91_18 : decode cJ7_copyOf_59c91 18 = .ok (.aload_n 0, 1) := by decide +kernel
theorem dJ7_copyOf_59c91_19 : decode cJ7_copyOf_59c91 19 = .ok (.iconst 0, 1) := by decide +kernel
theorem dJ7_copyOf_59c91_20 : decode cJ7_copyOf_59c91 20 = .ok (.aload_n 2, 1) := by decide +kernel
theorem dJ7_copyOf_59c91_21 : decode cJ7_copyOf_59c91 21 = .ok (.iconst 0, 1) := by decide +kernel
theorem dJ7_copyOf_59c91_22 : decode cJ7_copyOf_59c91 22 = .ok (.aload_n 0, 1) := by decide +kernel
theorem dJ7_copyOf_59c91_23 : decode cJ7_copyOf_59c91 23 = .ok (.arraylength, 1) := by decide +kernel
theorem dJ7_copyOf_59c91_24 : decode cJ7_copyOf_59c91 24 = .ok (.iload_n 1, 1) := by decide +kernel
theorem dJ7_copyOf_59c91_25 : decode cJ7_copyOf_59c91 25 = .ok (.invokestatic 304, 3) := by decide +kernel
theorem dJ7_copyOf_59c91_28 : decode cJ7_copyOf_59c91 28 = .ok (.invokestatic 150, 3) := by decide +kernel
theorem dJ7_copyOf_59c91_31 : decode cJ7_copyOf_59c91 31 = .ok (.aload_n 2, 1) := by decide +kernel
theorem dJ7_copyOf_59c91_32 : decode cJ7_copyOf_59c91 32 = .ok (.areturn, 1) := by decide +kernel
theorem dJ15_checkIndex_7cf53_0 : decode cJ15_checkIndex_7cf53 0 = .ok (.iload_n 0, 1) := by decide +kernel
theorem dJ15_checkIndex_7cf53_1 : decode cJ15_checkIndex_7cf53 1 = .ok (.iload_n 1, 1) := by decide +kernel
theorem dJ15_checkIndex_7cf53_2 : decode cJ15_checkIndex_7cf53 2 = .ok (.aconst_null, 1) := by decide +kernel
theorem dJ15_checkIndex_7cf53_3 : decode cJ15_checkIndex_7cf53 3 = .ok (.invokestatic 105, 3) := by decide +kernel
theorem dJ15_checkIndex_7cf53_6 : decode cJ15_checkIndex_7cf53 6 = .ok (.ireturn, 1) := by decide +kernel
theorem dJ8_newLength_cabcc_0 : decode cJ8_newLength_cabcc 0 = .ok (.iload_n 0, 1) := by decide +kernel
theorem dJ8_newLength_cabcc_1 : decode cJ8_newLength_cabcc 1 = .ok (.iload_n 1, 1) := by decide +kernel
theorem dJ8_newLength_cabcc_2 : decode cJ8_newLength_cabcc 2 = .ok (.iload_n 2, 1) := by decide +kernel
theorem dJ8_newLength_cabcc_3 : decode cJ8_newLength_cabcc 3 = .ok (.invokestatic 194, 3) := by decide +kernel
theorem dJ8_newLength_cabcc_6 : decode cJ8_newLength_cabcc 6 = .ok (.iadd, 1) := by decide +kernel
theorem dJ8_newLength_cabcc_7 : decode cJ8_newLength_cabcc 7 = .ok (.istore_n 3, 1) := by decide +kernel
theorem dJ8_newLength_cabcc_8 : decode cJ8_newLength_cabcc 8 = .ok (.iconst 0, 1) := by decide +kernel
theorem dJ8_newLength_cabcc_9 : decode cJ8_newLength_cabcc 9 = .ok (.iload_n 3, 1) := by decide +kernel
theorem dJ8_newLength_cabcc_10 : decode cJ8_newLength_cabcc 10 = .ok (.if_icmp .ge 11, 3) := by decide +kernel
theorem dJ8_newLength_cabcc_13 : decode cJ8_newLength_cabcc 13 = .ok (.iload_n 3, 1) := by decide +kernel
theorem dJ8_newLength_cabcc_14 : decode cJ8_newLength_cabcc 14 = .ok (.ldc 200, 2) := by decide +kernel
theorem dJ8_newLength_cabcc_16 : decode cJ8_newLength_cabcc 16 = .ok (.if_icmp .gt 5, 3) := by decide +kernel
theorem dJ8_newLength_cabcc_19 : decode cJ8_newLength_cabcc 19 = .ok (.iload_n 3, 1) := by decide +kernel
theorem dJ8_newLength_cabcc_20 : decode cJ8_newLength_cabcc 20 = .ok (.ireturn, 1) := by decide +kernel
theorem dJ8_newLength_cabcc_21 : decode cJ8_newLength_cabcc 21 = .ok (.iload_n 0, 1) := by decide +kernel
theorem dJ8_newLength_cabcc_22 : decode cJ8_newLength_cabcc 22 = .ok (.iload_n 1, 1) := by decide +kernel
theorem dJ8_newLength_cabcc_23 : decode cJ8_newLength_cabcc 23 = .ok (.invokestatic 201, 3) := by decide +kernel
theorem dJ8_newLength_cabcc_26 : decode cJ8_newLength_cabcc 26 = .ok (.ireturn, 1) := by decide +kernel
theorem dJ8_hugeLength_7cf53_0 : decode cJ8_hugeLength_7cf53 0 = .ok (.iload_n 0, 1) := by decide +kernel
theorem dJ8_hugeLength_7cf53_1 : decode cJ8_hugeLength_7cf53 1 = .ok (.iload_n 1, 1) := by decide +kernel
theorem dJ8_hugeLength_7cf53_2 : decode cJ8_hugeLength_7cf53 2 = .ok (.iadd, 1) := by decide +kernel
theorem dJ8_hugeLength_7cf53_3 : decode cJ8_hugeLength_7cf53 3 = .ok (.istore_n 2, 1) := by decide +kernel
theorem dJ8_hugeLength_7cf53_4 : decode cJ8_hugeLength_7cf53 4 = .ok (.iload_n 2, 1) := by decide +kernel
theorem dJ8_hugeLength_7cf53_5 : decode cJ8_hugeLength_7cf53 5 = .ok (.ifCond .ge 44, 3) := by decide +kernel
theorem dJ8_hugeLength_7cf53_8 : decode cJ8_hugeLength_7cf53 8 = .ok (.new 204, 3) := by decide +kernel
theorem dJ8_hugeLength_7cf53_11 : decode cJ8_hugeLength_7cf53 11 = .ok (.dup, 1) := by decide +kernel
theorem dJ8_hugeLength_7cf53_12 : decode cJ8_hugeLength_7cf53 12 = .ok (.new 89, 3) := by decide +kernel
theorem dJ8_hugeLength_7cf53_15 : decode cJ8_hugeLength_7cf53 15 = .ok (.dup, 1) := by decide +kernel
theorem dJ8_hugeLength_7cf53_16 : decode cJ8_hugeLength_7cf53 16 = .ok (.invokespecial 91, 3) := by decide +kernel
theorem dJ8_hugeLength_7cf53_19 : decode cJ8_hugeLength_7cf53 19 = .ok (.ldc 206, 2) := by decide +kernel
theorem dJ8_hugeLength_7cf53_21 : decode cJ8_hugeLength_7cf53 21 = .ok (.invokevirtual 94, 3) := by decide +kernel
theorem dJ8_hugeLength_7cf53_24 : decode cJ8_hugeLength_7cf53 24 = .ok (.iload_n 0, 1) := by decide +kernel
theorem dJ8_hugeLength_7cf53_25 : decode cJ8_hugeLength_7cf53 25 = .ok (.invokevirtual 98, 3) := by decide +kernel
theorem dJ8_hugeLength_7cf53_28 : decode cJ8_hugeLength_7cf53 28 = .ok (.ldc 208, 2) := by decide +kernel
theorem dJ8_hugeLength_7cf53_30 : decode cJ8_hugeLength_7cf53 30 = .ok (.invokevirtual 94, 3) := by decide +kernel
theorem dJ8_hugeLength_7cf53_33 : decode cJ8_hugeLength_7cf53 33 = .ok (.iload_n 1, 1) := by decide +kernel
theorem dJ8_hugeLength_7cf53_34 : decode cJ8_hugeLength_7cf53 34 = .ok (.invokevirtual 98, 3) := by decide +kernel
end
section
theorem dJ8_hugeLength_7cf53_37 : decode cJ8_hugeLength_7cf53 37 = .ok (.ldc 210, 2) := by decide +kernel
theorem dJ8_hugeLength_7cf53_39 : decode cJ8_hugeLength_7cf53 39 = .ok (.invokevirtual 94, 3) := by decide +kernel
theorem dJ8_hugeLength_7cf53_42 : decode cJ8_hugeLength_7cf53 42 = .ok (.invokevirtual 101, 3) := by decide +kernel
theorem dJ8_hugeLength_7cf53_45 : decode cJ8_hugeLength_7cf53 45 = .ok (.invokespecial 212, 3) := by decide +kernel
theorem dJ8_hugeLength_7cf53_48 : decode cJ8_hugeLength_7cf53 48 = .ok (.athrow, 1) := by decide +kernel
theorem dJ8_hugeLength_7cf53_49 : decode cJ8_hugeLength_7cf53 49 = .ok (.iload_n 2, 1) := by decide +kernel
theorem dJ8_hugeLength_7cf53_50 : decode cJ8_hugeLength_7cf53 50 = .ok (.ldc 200, 2) := by decide +kernel
theorem dJ8_hugeLength_7cf53_52 : decode cJ8_hugeLength_7cf53 52 = .ok (.if_icmp .gt 6, 3) := by decide +kernel
theorem dJ8_hugeLength_7cf53_55 : decode cJ8_hugeLength_7cf53 55 = .ok (.ldc 200, 2) := by decide +kernel
theorem dJ8_hugeLength_7cf53_57 : decode cJ8_hugeLength_7cf53 57 = .ok (.ireturn, 1) := by decide +kernel
theorem dJ8_hugeLength_7cf53_58 : decode cJ8_hugeLength_7cf53 58 = .ok (.iload_n 2, 1) := by decide +kernel
theorem dJ8_hugeLength_7cf53_59 : decode cJ8_hugeLength_7cf53 59 = .ok (.ireturn, 1) := by decide +kernel
theorem dJ3_checkIndex_8e157_0 : decode cJ3_checkIndex_8e157 0 = .ok (.iload_n 0, 1) := by decide +kernel
theorem dJ3_checkIndex_8e157_1 : decode cJ3_checkIndex_8e157 1 = .ok (.ifCond .lt 8, 3) := by decide +kernel
theorem dJ3_checkIndex_8e157_4 : decode cJ3_checkIndex_8e157 4 = .ok (.iload_n 0, 1) := by decide +kernel
theorem dJ3_checkIndex_8e157_5 : decode cJ3_checkIndex_8e157 5 = .ok (.iload_n 1, 1) := by decide +kernel
theorem dJ3_checkIndex_8e157_6 : decode cJ3_checkIndex_8e157 6 = .ok (.if_icmp .lt 10, 3) := by decide +kernel
theorem dJ3_checkIndex_8e157_9 : decode cJ3_checkIndex_8e157 9 = .ok (.aload_n 2, 1) := by decide +kernel
theorem dJ3_checkIndex_8e157_10 : decode cJ3_checkIndex_8e157 10 = .ok (.iload_n 0, 1) := by decide +kernel
theorem dJ3_checkIndex_8e157_11 : decode cJ3_checkIndex_8e157 11 = .ok (.iload_n 1, 1) := by decide +kernel
theorem dJ3_checkIndex_8e157_12 : decode cJ3_checkIndex_8e157 12 = .ok (.invokestatic 95, 3) := by decide +kernel
theorem dJ3_checkIndex_8e157_15 : decode cJ3_checkIndex_8e157 15 = .ok (.athrow, 1) := by decide +kernel
theorem dJ3_checkIndex_8e157_16 : decode cJ3_checkIndex_8e157 16 = .ok (.iload_n 0, 1) := by decide +kernel
theorem dJ3_checkIndex_8e157_17 : decode cJ3_checkIndex_8e157 17 = .ok (.ireturn, 1) := by decide +kernel
theorem dL_feed_0 : decode cL_feed 0 = .ok (.aload 6, 2) := by decide +kernel
theorem dL_feed_2 : decode cL_feed 2 = .ok (.iconst 0, 1) := by decide +kernel
theorem dL_feed_3 : decode cL_feed 3 = .ok (.aload_n 0, 1) := by decide +kernel
theorem dL_feed_4 : decode cL_feed 4 = .ok (.iload_n 1, 1) := by decide +kernel
theorem dL_feed_5 : decode cL_feed 5 = .ok (.iload_n 2, 1) := by decide +kernel
theorem dL_feed_6 : decode cL_feed 6 = .ok (.iload_n 3, 1) := by decide +kernel
theorem dL_feed_7 : decode cL_feed 7 = .ok (.iload 4, 2) := by decide +kernel
theorem dL_feed_9 : decode cL_feed 9 = .ok (.iload 5, 2) := by decide +kernel
theorem dL_feed_11 : decode cL_feed 11 = .ok (.invokevirtual 7, 3) := by decide +kernel
theorem dL_feed_14 : decode cL_feed 14 = .ok (.i2l, 1) := by decide +kernel
theorem dL_feed_15 : decode cL_feed 15 = .ok (.lastore, 1) := by decide +kernel
theorem dL_feed_16 : decode cL_feed 16 = .ok (.goto 7, 3) := by decide +kernel
theorem dL_feed_19 : decode cL_feed 19 = .ok (.astore 7, 2) := by decide +kernel
theorem dL_feed_21 : decode cL_feed 21 = .ok (.iconst 1, 1) := by decide +kernel
theorem dL_feed_22 : decode cL_feed 22 = .ok (.ireturn, 1) := by decide +kernel
theorem dL_feed_23 : decode cL_feed 23 = .ok (.iconst 0, 1) := by decide +kernel
theorem dL_feed_24 : decode cL_feed 24 = .ok (.ireturn, 1) := by decide +kernel
theorem dL_trim_0 : decode cL_trim 0 = .ok (.aload_n 2, 1) := by decide +kernel
theorem dL_trim_1 : decode cL_trim 1 = .ok (.iconst 0, 1) := by decide +kernel
theorem dL_trim_2 : decode cL_trim 2 = .ok (.aload_n 0, 1) := by decide +kernel
theorem dL_trim_3 : decode cL_trim 3 = .ok (.iload_n 1, 1) := by decide +kernel
theorem dL_trim_4 : decode cL_trim 4 = .ok (.invokevirtual 15, 3) := by decide +kernel
theorem dL_trim_7 : decode cL_trim 7 = .ok (.i2l, 1) := by decide +kernel
theorem dL_trim_8 : decode cL_trim 8 = .ok (.lastore, 1) := by decide +kernel
theorem dL_trim_9 : decode cL_trim 9 = .ok (.goto 6, 3) := by decide +kernel
theorem dL_trim_12 : decode cL_trim 12 = .ok (.astore_n 3, 1) := by decide +kernel
theorem dL_trim_13 : decode cL_trim 13 = .ok (.iconst 1, 1) := by decide +kernel
theorem dL_trim_14 : decode cL_trim 14 = .ok (.ireturn, 1) := by decide +kernel
theorem dL_trim_15 : decode cL_trim 15 = .ok (.iconst 0, 1) := by decide +kernel
theorem dL_trim_16 : decode cL_trim 16 = .ok (.ireturn, 1) := by decide +kernel
theorem dL_file_0 : decode cL_file 0 = .ok (.aload_n 2, 1) := by decide +kernel
theorem dL_file_1 : decode cL_file 1 = .ok (.iconst 0, 1) := by decide +kernel
theorem dL_file_2 : decode cL_file 2 = .ok (.aload_n 0, 1) := by decide +kernel
theorem dL_file_3 : decode cL_file 3 = .ok (.iload_n 1, 1) := by decide +kernel
theorem dL_file_4 : decode cL_file 4 = .ok (.invokevirtual 21, 3) := by decide +kernel
theorem dL_file_7 : decode cL_file 7 = .ok (.i2l, 1) := by decide +kernel
theorem dL_file_8 : decode cL_file 8 = .ok (.lastore, 1) := by decide +kernel
theorem dL_file_9 : decode cL_file 9 = .ok (.goto 9, 3) := by decide +kernel
theorem dL_file_12 : decode cL_file 12 = .ok (.astore_n 3, 1) := by decide +kernel
theorem dL_file_13 : decode cL_file 13 = .ok (.iconst 1, 1) := by decide +kernel
theorem dL_file_14 : decode cL_file 14 = .ok (.ireturn, 1) := by decide +kernel
theorem dL_file_15 : decode cL_file 15 = .ok (.astore_n 3, 1) := by decide +kernel
theorem dL_file_16 : decode cL_file 16 = .ok (.iconst 2, 1) := by decide +kernel
theorem dL_file_17 : decode cL_file 17 = .ok (.ireturn, 1) := by decide +kernel
theorem dL_file_18 : decode cL_file 18 = .ok (.iconst 0, 1) := by decide +kernel
theorem dL_file_19 : decode cL_file 19 = .ok (.ireturn, 1) := by decide +kernel
theorem dL_veil_0 : decode cL_veil 0 = .ok (.aload 5, 2) := by decide +kernel
theorem dL_veil_2 : decode cL_veil 2 = .ok (.iconst 0, 1) := by decide +kernel
theorem dL_veil_3 : decode cL_veil 3 = .ok (.aload_n 0, 1) := by decide +kernel
theorem dL_veil_4 : decode cL_veil 4 = .ok (.iload_n 1, 1) := by decide +kernel
theorem dL_veil_5 : decode cL_veil 5 = .ok (.iload_n 2, 1) := by decide +kernel
theorem dL_veil_6 : decode cL_veil 6 = .ok (.iload_n 3, 1) := by decide +kernel
theorem dL_veil_7 : decode cL_veil 7 = .ok (.iload 4, 2) := by decide +kernel
theorem dL_veil_9 : decode cL_veil 9 = .ok (.invokevirtual 26, 3) := by decide +kernel
theorem dL_veil_12 : decode cL_veil 12 = .ok (.i2l, 1) := by decide +kernel
theorem dL_veil_13 : decode cL_veil 13 = .ok (.lastore, 1) := by decide +kernel
theorem dL_veil_14 : decode cL_veil 14 = .ok (.goto 11, 3) := by decide +kernel
theorem dL_veil_17 : decode cL_veil 17 = .ok (.astore 6, 2) := by decide +kernel
theorem dL_veil_19 : decode cL_veil 19 = .ok (.iconst 1, 1) := by decide +kernel
theorem dL_veil_20 : decode cL_veil 20 = .ok (.ireturn, 1) := by decide +kernel
theorem dL_veil_21 : decode cL_veil 21 = .ok (.astore 6, 2) := by decide +kernel
theorem dL_veil_23 : decode cL_veil 23 = .ok (.iconst 2, 1) := by decide +kernel
theorem dL_veil_24 : decode cL_veil 24 = .ok (.ireturn, 1) := by decide +kernel
theorem dL_veil_25 : decode cL_veil 25 = .ok (.iconst 0, 1) := by decide +kernel
theorem dL_veil_26 : decode cL_veil 26 = .ok (.ireturn, 1) := by decide +kernel
theorem dL_document_0 : decode cL_document 0 = .ok (.aload_n 3, 1) := by decide +kernel
theorem dL_document_1 : decode cL_document 1 = .ok (.iconst 0, 1) := by decide +kernel
theorem dL_document_2 : decode cL_document 2 = .ok (.aload_n 0, 1) := by decide +kernel
theorem dL_document_3 : decode cL_document 3 = .ok (.iload_n 1, 1) := by decide +kernel
theorem dL_document_4 : decode cL_document 4 = .ok (.iload_n 2, 1) := by decide +kernel
theorem dL_document_5 : decode cL_document 5 = .ok (.invokevirtual 30, 3) := by decide +kernel
theorem dL_document_8 : decode cL_document 8 = .ok (.i2l, 1) := by decide +kernel
theorem dL_document_9 : decode cL_document 9 = .ok (.lastore, 1) := by decide +kernel
theorem dL_document_10 : decode cL_document 10 = .ok (.goto 7, 3) := by decide +kernel
theorem dL_document_13 : decode cL_document 13 = .ok (.astore 4, 2) := by decide +kernel
theorem dL_document_15 : decode cL_document 15 = .ok (.iconst 1, 1) := by decide +kernel
theorem dL_document_16 : decode cL_document 16 = .ok (.ireturn, 1) := by decide +kernel
theorem dL_document_17 : decode cL_document 17 = .ok (.iconst 0, 1) := by decide +kernel
theorem dL_document_18 : decode cL_document 18 = .ok (.ireturn, 1) := by decide +kernel
theorem dL_open_0 : decode cL_open 0 = .ok (.aload_n 2, 1) := by decide +kernel
theorem dL_open_1 : decode cL_open 1 = .ok (.iconst 0, 1) := by decide +kernel
theorem dL_open_2 : decode cL_open 2 = .ok (.aload_n 0, 1) := by decide +kernel
theorem dL_open_3 : decode cL_open 3 = .ok (.iload_n 1, 1) := by decide +kernel
theorem dL_open_4 : decode cL_open 4 = .ok (.invokevirtual 34, 3) := by decide +kernel
theorem dL_open_7 : decode cL_open 7 = .ok (.i2l, 1) := by decide +kernel
theorem dL_open_8 : decode cL_open 8 = .ok (.lastore, 1) := by decide +kernel
theorem dL_open_9 : decode cL_open 9 = .ok (.goto 9, 3) := by decide +kernel
theorem dL_open_12 : decode cL_open 12 = .ok (.astore_n 3, 1) := by decide +kernel
theorem dL_open_13 : decode cL_open 13 = .ok (.iconst 1, 1) := by decide +kernel
theorem dL_open_14 : decode cL_open 14 = .ok (.ireturn, 1) := by decide +kernel
theorem dL_open_15 : decode cL_open 15 = .ok (.astore_n 3, 1) := by decide +kernel
theorem dL_open_16 : decode cL_open 16 = .ok (.iconst 2, 1) := by decide +kernel
theorem dL_open_17 : decode cL_open 17 = .ok (.ireturn, 1) := by decide +kernel
theorem dL_open_18 : decode cL_open 18 = .ok (.iconst 0, 1) := by decide +kernel
theorem dL_open_19 : decode cL_open 19 = .ok (.ireturn, 1) := by decide +kernel
theorem dL_seal_0 : decode cL_seal 0 = .ok (.aload_n 3, 1) := by decide +kernel
theorem dL_seal_1 : decode cL_seal 1 = .ok (.iconst 0, 1) := by decide +kernel
theorem dL_seal_2 : decode cL_seal 2 = .ok (.aload_n 0, 1) := by decide +kernel
theorem dL_seal_3 : decode cL_seal 3 = .ok (.iload_n 1, 1) := by decide +kernel
theorem dL_seal_4 : decode cL_seal 4 = .ok (.iload_n 2, 1) := by decide +kernel
theorem dL_seal_5 : decode cL_seal 5 = .ok (.invokevirtual 37, 3) := by decide +kernel
theorem dL_seal_8 : decode cL_seal 8 = .ok (.i2l, 1) := by decide +kernel
theorem dL_seal_9 : decode cL_seal 9 = .ok (.lastore, 1) := by decide +kernel
theorem dL_seal_10 : decode cL_seal 10 = .ok (.goto 11, 3) := by decide +kernel
theorem dL_seal_13 : decode cL_seal 13 = .ok (.astore 4, 2) := by decide +kernel
theorem dL_seal_15 : decode cL_seal 15 = .ok (.iconst 1, 1) := by decide +kernel
theorem dL_seal_16 : decode cL_seal 16 = .ok (.ireturn, 1) := by decide +kernel
theorem dL_seal_17 : decode cL_seal 17 = .ok (.astore 4, 2) := by decide +kernel
theorem dL_seal_19 : decode cL_seal 19 = .ok (.iconst 2, 1) := by decide +kernel
theorem dL_seal_20 : decode cL_seal 20 = .ok (.ireturn, 1) := by decide +kernel
theorem dL_seal_21 : decode cL_seal 21 = .ok (.iconst 0, 1) := by decide +kernel
theorem dL_seal_22 : decode cL_seal 22 = .ok (.ireturn, 1) := by decide +kernel
theorem dL_addPerson_0 : decode cL_addPerson 0 = .ok (.aload_n 3, 1) := by decide +kernel
theorem dL_addPerson_1 : decode cL_addPerson 1 = .ok (.iconst 0, 1) := by decide +kernel
theorem dL_addPerson_2 : decode cL_addPerson 2 = .ok (.aload_n 0, 1) := by decide +kernel
theorem dL_addPerson_3 : decode cL_addPerson 3 = .ok (.iload_n 1, 1) := by decide +kernel
theorem dL_addPerson_4 : decode cL_addPerson 4 = .ok (.iload_n 2, 1) := by decide +kernel
theorem dL_addPerson_5 : decode cL_addPerson 5 = .ok (.invokevirtual 40, 3) := by decide +kernel
theorem dL_addPerson_8 : decode cL_addPerson 8 = .ok (.i2l, 1) := by decide +kernel
theorem dL_addPerson_9 : decode cL_addPerson 9 = .ok (.lastore, 1) := by decide +kernel
theorem dL_addPerson_10 : decode cL_addPerson 10 = .ok (.goto 11, 3) := by decide +kernel
theorem dL_addPerson_13 : decode cL_addPerson 13 = .ok (.astore 4, 2) := by decide +kernel
theorem dL_addPerson_15 : decode cL_addPerson 15 = .ok (.iconst 1, 1) := by decide +kernel
theorem dL_addPerson_16 : decode cL_addPerson 16 = .ok (.ireturn, 1) := by decide +kernel
theorem dL_addPerson_17 : decode cL_addPerson 17 = .ok (.astore 4, 2) := by decide +kernel
theorem dL_addPerson_19 : decode cL_addPerson 19 = .ok (.iconst 2, 1) := by decide +kernel
theorem dL_addPerson_20 : decode cL_addPerson 20 = .ok (.ireturn, 1) := by decide +kernel
theorem dL_addPerson_21 : decode cL_addPerson 21 = .ok (.iconst 0, 1) := by decide +kernel
theorem dL_addPerson_22 : decode cL_addPerson 22 = .ok (.ireturn, 1) := by decide +kernel
theorem dL_attach_0 : decode cL_attach 0 = .ok (.aload_n 3, 1) := by decide +kernel
theorem dL_attach_1 : decode cL_attach 1 = .ok (.iconst 0, 1) := by decide +kernel
theorem dL_attach_2 : decode cL_attach 2 = .ok (.aload_n 0, 1) := by decide +kernel
theorem dL_attach_3 : decode cL_attach 3 = .ok (.iload_n 1, 1) := by decide +kernel
theorem dL_attach_4 : decode cL_attach 4 = .ok (.iload_n 2, 1) := by decide +kernel
theorem dL_attach_5 : decode cL_attach 5 = .ok (.invokevirtual 43, 3) := by decide +kernel
theorem dL_attach_8 : decode cL_attach 8 = .ok (.ifCond .eq 7, 3) := by decide +kernel
theorem dL_attach_11 : decode cL_attach 11 = .ok (.lconst 1, 1) := by decide +kernel
theorem dL_attach_12 : decode cL_attach 12 = .ok (.goto 4, 3) := by decide +kernel
theorem dL_attach_15 : decode cL_attach 15 = .ok (.lconst 0, 1) := by decide +kernel
theorem dL_attach_16 : decode cL_attach 16 = .ok (.lastore, 1) := by decide +kernel
theorem dL_attach_17 : decode cL_attach 17 = .ok (.goto 7, 3) := by decide +kernel
theorem dL_attach_20 : decode cL_attach 20 = .ok (.astore 4, 2) := by decide +kernel
theorem dL_attach_22 : decode cL_attach 22 = .ok (.iconst 1, 1) := by decide +kernel
theorem dL_attach_23 : decode cL_attach 23 = .ok (.ireturn, 1) := by decide +kernel
theorem dL_attach_24 : decode cL_attach 24 = .ok (.iconst 0, 1) := by decide +kernel
theorem dL_attach_25 : decode cL_attach 25 = .ok (.ireturn, 1) := by decide +kernel
theorem dL_person_0 : decode cL_person 0 = .ok (.aload_n 3, 1) := by decide +kernel
theorem dL_person_1 : decode cL_person 1 = .ok (.iconst 0, 1) := by decide +kernel
theorem dL_person_2 : decode cL_person 2 = .ok (.aload_n 0, 1) := by decide +kernel
theorem dL_person_3 : decode cL_person 3 = .ok (.iload_n 1, 1) := by decide +kernel
theorem dL_person_4 : decode cL_person 4 = .ok (.iload_n 2, 1) := by decide +kernel
theorem dL_person_5 : decode cL_person 5 = .ok (.invokevirtual 47, 3) := by decide +kernel
theorem dL_person_8 : decode cL_person 8 = .ok (.i2l, 1) := by decide +kernel
theorem dL_person_9 : decode cL_person 9 = .ok (.lastore, 1) := by decide +kernel
theorem dL_person_10 : decode cL_person 10 = .ok (.goto 7, 3) := by decide +kernel
theorem dL_person_13 : decode cL_person 13 = .ok (.astore 4, 2) := by decide +kernel
theorem dL_person_15 : decode cL_person 15 = .ok (.iconst 1, 1) := by decide +kernel
theorem dL_person_16 : decode cL_person 16 = .ok (.ireturn, 1) := by decide +kernel
theorem dL_person_17 : decode cL_person 17 = .ok (.iconst 0, 1) := by decide +kernel
theorem dL_person_18 : decode cL_person 18 = .ok (.ireturn, 1) := by decide +kernel
theorem dL_caseOf_0 : decode cL_caseOf 0 = .ok (.aload_n 3, 1) := by decide +kernel
theorem dL_caseOf_1 : decode cL_caseOf 1 = .ok (.iconst 0, 1) := by decide +kernel
theorem dL_caseOf_2 : decode cL_caseOf 2 = .ok (.aload_n 0, 1) := by decide +kernel
theorem dL_caseOf_3 : decode cL_caseOf 3 = .ok (.iload_n 1, 1) := by decide +kernel
theorem dL_caseOf_4 : decode cL_caseOf 4 = .ok (.iload_n 2, 1) := by decide +kernel
theorem dL_caseOf_5 : decode cL_caseOf 5 = .ok (.invokevirtual 50, 3) := by decide +kernel
theorem dL_caseOf_8 : decode cL_caseOf 8 = .ok (.i2l, 1) := by decide +kernel
theorem dL_caseOf_9 : decode cL_caseOf 9 = .ok (.lastore, 1) := by decide +kernel
theorem dL_caseOf_10 : decode cL_caseOf 10 = .ok (.goto 7, 3) := by decide +kernel
theorem dL_caseOf_13 : decode cL_caseOf 13 = .ok (.astore 4, 2) := by decide +kernel
theorem dL_caseOf_15 : decode cL_caseOf 15 = .ok (.iconst 1, 1) := by decide +kernel
theorem dL_caseOf_16 : decode cL_caseOf 16 = .ok (.ireturn, 1) := by decide +kernel
theorem dL_caseOf_17 : decode cL_caseOf 17 = .ok (.iconst 0, 1) := by decide +kernel
theorem dL_caseOf_18 : decode cL_caseOf 18 = .ok (.ireturn, 1) := by decide +kernel
theorem dL_read_0 : decode cL_read 0 = .ok (.aload_n 3, 1) := by decide +kernel
theorem dL_read_1 : decode cL_read 1 = .ok (.iconst 0, 1) := by decide +kernel
theorem dL_read_2 : decode cL_read 2 = .ok (.aload_n 0, 1) := by decide +kernel
theorem dL_read_3 : decode cL_read 3 = .ok (.iload_n 1, 1) := by decide +kernel
theorem dL_read_4 : decode cL_read 4 = .ok (.iload_n 2, 1) := by decide +kernel
theorem dL_read_5 : decode cL_read 5 = .ok (.invokevirtual 53, 3) := by decide +kernel
theorem dL_read_8 : decode cL_read 8 = .ok (.i2l, 1) := by decide +kernel
theorem dL_read_9 : decode cL_read 9 = .ok (.lastore, 1) := by decide +kernel
theorem dL_read_10 : decode cL_read 10 = .ok (.goto 7, 3) := by decide +kernel
theorem dL_read_13 : decode cL_read 13 = .ok (.astore 4, 2) := by decide +kernel
theorem dL_read_15 : decode cL_read 15 = .ok (.iconst 1, 1) := by decide +kernel
theorem dL_read_16 : decode cL_read 16 = .ok (.ireturn, 1) := by decide +kernel
theorem dL_read_17 : decode cL_read 17 = .ok (.iconst 0, 1) := by decide +kernel
theorem dL_read_18 : decode cL_read 18 = .ok (.ireturn, 1) := by decide +kernel
theorem dL_byteAt_0 : decode cL_byteAt 0 = .ok (.aload_n 2, 1) := by decide +kernel
theorem dL_byteAt_1 : decode cL_byteAt 1 = .ok (.iconst 0, 1) := by decide +kernel
theorem dL_byteAt_2 : decode cL_byteAt 2 = .ok (.aload_n 0, 1) := by decide +kernel
theorem dL_byteAt_3 : decode cL_byteAt 3 = .ok (.iload_n 1, 1) := by decide +kernel
theorem dL_byteAt_4 : decode cL_byteAt 4 = .ok (.invokevirtual 56, 3) := by decide +kernel
theorem dL_byteAt_7 : decode cL_byteAt 7 = .ok (.i2l, 1) := by decide +kernel
theorem dL_byteAt_8 : decode cL_byteAt 8 = .ok (.lastore, 1) := by decide +kernel
theorem dL_byteAt_9 : decode cL_byteAt 9 = .ok (.goto 6, 3) := by decide +kernel
theorem dL_byteAt_12 : decode cL_byteAt 12 = .ok (.astore_n 3, 1) := by decide +kernel
theorem dL_byteAt_13 : decode cL_byteAt 13 = .ok (.iconst 1, 1) := by decide +kernel
theorem dL_byteAt_14 : decode cL_byteAt 14 = .ok (.ireturn, 1) := by decide +kernel
theorem dL_byteAt_15 : decode cL_byteAt 15 = .ok (.iconst 0, 1) := by decide +kernel
theorem dL_byteAt_16 : decode cL_byteAt 16 = .ok (.ireturn, 1) := by decide +kernel
theorem dL_hidden_0 : decode cL_hidden 0 = .ok (.aload_n 3, 1) := by decide +kernel
theorem dL_hidden_1 : decode cL_hidden 1 = .ok (.iconst 0, 1) := by decide +kernel
theorem dL_hidden_2 : decode cL_hidden 2 = .ok (.aload_n 0, 1) := by decide +kernel
theorem dL_hidden_3 : decode cL_hidden 3 = .ok (.iload_n 1, 1) := by decide +kernel
theorem dL_hidden_4 : decode cL_hidden 4 = .ok (.iload_n 2, 1) := by decide +kernel
theorem dL_hidden_5 : decode cL_hidden 5 = .ok (.invokevirtual 59, 3) := by decide +kernel
theorem dL_hidden_8 : decode cL_hidden 8 = .ok (.i2l, 1) := by decide +kernel
theorem dL_hidden_9 : decode cL_hidden 9 = .ok (.lastore, 1) := by decide +kernel
theorem dL_hidden_10 : decode cL_hidden 10 = .ok (.goto 7, 3) := by decide +kernel
theorem dL_hidden_13 : decode cL_hidden 13 = .ok (.astore 4, 2) := by decide +kernel
theorem dL_hidden_15 : decode cL_hidden 15 = .ok (.iconst 1, 1) := by decide +kernel
theorem dL_hidden_16 : decode cL_hidden 16 = .ok (.ireturn, 1) := by decide +kernel
theorem dL_hidden_17 : decode cL_hidden 17 = .ok (.iconst 0, 1) := by decide +kernel
theorem dL_hidden_18 : decode cL_hidden 18 = .ok (.ireturn, 1) := by decide +kernel
theorem dL_differs_0 : decode cL_differs 0 = .ok (.aload 4, 2) := by decide +kernel
theorem dL_differs_2 : decode cL_differs 2 = .ok (.iconst 0, 1) := by decide +kernel
theorem dL_differs_3 : decode cL_differs 3 = .ok (.aload_n 0, 1) := by decide +kernel
theorem dL_differs_4 : decode cL_differs 4 = .ok (.iload_n 1, 1) := by decide +kernel
theorem dL_differs_5 : decode cL_differs 5 = .ok (.iload_n 2, 1) := by decide +kernel
theorem dL_differs_6 : decode cL_differs 6 = .ok (.iload_n 3, 1) := by decide +kernel
theorem dL_differs_7 : decode cL_differs 7 = .ok (.invokevirtual 62, 3) := by decide +kernel
theorem dL_differs_10 : decode cL_differs 10 = .ok (.i2l, 1) := by decide +kernel
theorem dL_differs_11 : decode cL_differs 11 = .ok (.lastore, 1) := by decide +kernel
theorem dL_differs_12 : decode cL_differs 12 = .ok (.goto 7, 3) := by decide +kernel
theorem dL_differs_15 : decode cL_differs 15 = .ok (.astore 5, 2) := by decide +kernel
theorem dL_differs_17 : decode cL_differs 17 = .ok (.iconst 1, 1) := by decide +kernel
theorem dL_differs_18 : decode cL_differs 18 = .ok (.ireturn, 1) := by decide +kernel
theorem dL_differs_19 : decode cL_differs 19 = .ok (.iconst 0, 1) := by decide +kernel
theorem dL_differs_20 : decode cL_differs 20 = .ok (.ireturn, 1) := by decide +kernel
theorem dL_find_0 : decode cL_find 0 = .ok (.aload_n 3, 1) := by decide +kernel
theorem dL_find_1 : decode cL_find 1 = .ok (.iconst 0, 1) := by decide +kernel
theorem dL_find_2 : decode cL_find 2 = .ok (.aload_n 0, 1) := by decide +kernel
theorem dL_find_3 : decode cL_find 3 = .ok (.iload_n 1, 1) := by decide +kernel
theorem dL_find_4 : decode cL_find 4 = .ok (.iload_n 2, 1) := by decide +kernel
theorem dL_find_5 : decode cL_find 5 = .ok (.invokevirtual 66, 3) := by decide +kernel
theorem dL_find_8 : decode cL_find 8 = .ok (.i2l, 1) := by decide +kernel
theorem dL_find_9 : decode cL_find 9 = .ok (.lastore, 1) := by decide +kernel
theorem dL_find_10 : decode cL_find 10 = .ok (.goto 7, 3) := by decide +kernel
theorem dL_find_13 : decode cL_find 13 = .ok (.astore 4, 2) := by decide +kernel
theorem dL_find_15 : decode cL_find 15 = .ok (.iconst 1, 1) := by decide +kernel
theorem dL_find_16 : decode cL_find 16 = .ok (.ireturn, 1) := by decide +kernel
theorem dL_find_17 : decode cL_find 17 = .ok (.iconst 0, 1) := by decide +kernel
theorem dL_find_18 : decode cL_find 18 = .ok (.ireturn, 1) := by decide +kernel
theorem dL_least_0 : decode cL_least 0 = .ok (.aload 4, 2) := by decide +kernel
theorem dL_least_2 : decode cL_least 2 = .ok (.iconst 0, 1) := by decide +kernel
theorem dL_least_3 : decode cL_least 3 = .ok (.aload_n 0, 1) := by decide +kernel
theorem dL_least_4 : decode cL_least 4 = .ok (.iload_n 1, 1) := by decide +kernel
theorem dL_least_5 : decode cL_least 5 = .ok (.iload_n 2, 1) := by decide +kernel
theorem dL_least_6 : decode cL_least 6 = .ok (.iload_n 3, 1) := by decide +kernel
theorem dL_least_7 : decode cL_least 7 = .ok (.invokevirtual 69, 3) := by decide +kernel
theorem dL_least_10 : decode cL_least 10 = .ok (.i2l, 1) := by decide +kernel
theorem dL_least_11 : decode cL_least 11 = .ok (.lastore, 1) := by decide +kernel
theorem dL_least_12 : decode cL_least 12 = .ok (.goto 11, 3) := by decide +kernel
theorem dL_least_15 : decode cL_least 15 = .ok (.astore 5, 2) := by decide +kernel
theorem dL_least_17 : decode cL_least 17 = .ok (.iconst 1, 1) := by decide +kernel
theorem dL_least_18 : decode cL_least 18 = .ok (.ireturn, 1) := by decide +kernel
theorem dL_least_19 : decode cL_least 19 = .ok (.astore 5, 2) := by decide +kernel
theorem dL_least_21 : decode cL_least 21 = .ok (.iconst 2, 1) := by decide +kernel
theorem dL_least_22 : decode cL_least 22 = .ok (.ireturn, 1) := by decide +kernel
theorem dL_least_23 : decode cL_least 23 = .ok (.iconst 0, 1) := by decide +kernel
theorem dL_least_24 : decode cL_least 24 = .ok (.ireturn, 1) := by decide +kernel
theorem dL_lend_0 : decode cL_lend 0 = .ok (.aload 4, 2) := by decide +kernel
theorem dL_lend_2 : decode cL_lend 2 = .ok (.iconst 0, 1) := by decide +kernel
theorem dL_lend_3 : decode cL_lend 3 = .ok (.aload_n 0, 1) := by decide +kernel
theorem dL_lend_4 : decode cL_lend 4 = .ok (.iload_n 1, 1) := by decide +kernel
theorem dL_lend_5 : decode cL_lend 5 = .ok (.iload_n 2, 1) := by decide +kernel
theorem dL_lend_6 : decode cL_lend 6 = .ok (.iload_n 3, 1) := by decide +kernel
theorem dL_lend_7 : decode cL_lend 7 = .ok (.invokevirtual 72, 3) := by decide +kernel
theorem dL_lend_10 : decode cL_lend 10 = .ok (.i2l, 1) := by decide +kernel
theorem dL_lend_11 : decode cL_lend 11 = .ok (.lastore, 1) := by decide +kernel
theorem dL_lend_12 : decode cL_lend 12 = .ok (.goto 15, 3) := by decide +kernel
theorem dL_lend_15 : decode cL_lend 15 = .ok (.astore 5, 2) := by decide +kernel
theorem dL_lend_17 : decode cL_lend 17 = .ok (.iconst 1, 1) := by decide +kernel
theorem dL_lend_18 : decode cL_lend 18 = .ok (.ireturn, 1) := by decide +kernel
theorem dL_lend_19 : decode cL_lend 19 = .ok (.astore 5, 2) := by decide +kernel
theorem dL_lend_21 : decode cL_lend 21 = .ok (.iconst 2, 1) := by decide +kernel
theorem dL_lend_22 : decode cL_lend 22 = .ok (.ireturn, 1) := by decide +kernel
theorem dL_lend_23 : decode cL_lend 23 = .ok (.astore 5, 2) := by decide +kernel
theorem dL_lend_25 : decode cL_lend 25 = .ok (.iconst 3, 1) := by decide +kernel
theorem dL_lend_26 : decode cL_lend 26 = .ok (.ireturn, 1) := by decide +kernel
theorem dL_lend_27 : decode cL_lend 27 = .ok (.iconst 0, 1) := by decide +kernel
theorem dL_lend_28 : decode cL_lend 28 = .ok (.ireturn, 1) := by decide +kernel
theorem dL_back_0 : decode cL_back 0 = .ok (.aload_n 2, 1) := by decide +kernel
theorem dL_back_1 : decode cL_back 1 = .ok (.iconst 0, 1) := by decide +kernel
theorem dL_back_2 : decode cL_back 2 = .ok (.aload_n 0, 1) := by decide +kernel
theorem dL_back_3 : decode cL_back 3 = .ok (.iload_n 1, 1) := by decide +kernel
theorem dL_back_4 : decode cL_back 4 = .ok (.invokevirtual 75, 3) := by decide +kernel
theorem dL_back_7 : decode cL_back 7 = .ok (.i2l, 1) := by decide +kernel
theorem dL_back_8 : decode cL_back 8 = .ok (.lastore, 1) := by decide +kernel
theorem dL_back_9 : decode cL_back 9 = .ok (.goto 6, 3) := by decide +kernel
theorem dL_back_12 : decode cL_back 12 = .ok (.astore_n 3, 1) := by decide +kernel
theorem dL_back_13 : decode cL_back 13 = .ok (.iconst 1, 1) := by decide +kernel
theorem dL_back_14 : decode cL_back 14 = .ok (.ireturn, 1) := by decide +kernel
theorem dL_back_15 : decode cL_back 15 = .ok (.iconst 0, 1) := by decide +kernel
theorem dL_back_16 : decode cL_back 16 = .ok (.ireturn, 1) := by decide +kernel
theorem dL_takeIn_0 : decode cL_takeIn 0 = .ok (.aload_n 2, 1) := by decide +kernel
theorem dL_takeIn_1 : decode cL_takeIn 1 = .ok (.iconst 0, 1) := by decide +kernel
theorem dL_takeIn_2 : decode cL_takeIn 2 = .ok (.aload_n 0, 1) := by decide +kernel
theorem dL_takeIn_3 : decode cL_takeIn 3 = .ok (.iload_n 1, 1) := by decide +kernel
theorem dL_takeIn_4 : decode cL_takeIn 4 = .ok (.invokevirtual 78, 3) := by decide +kernel
theorem dL_takeIn_7 : decode cL_takeIn 7 = .ok (.i2l, 1) := by decide +kernel
theorem dL_takeIn_8 : decode cL_takeIn 8 = .ok (.lastore, 1) := by decide +kernel
theorem dL_takeIn_9 : decode cL_takeIn 9 = .ok (.goto 9, 3) := by decide +kernel
theorem dL_takeIn_12 : decode cL_takeIn 12 = .ok (.astore_n 3, 1) := by decide +kernel
theorem dL_takeIn_13 : decode cL_takeIn 13 = .ok (.iconst 1, 1) := by decide +kernel
theorem dL_takeIn_14 : decode cL_takeIn 14 = .ok (.ireturn, 1) := by decide +kernel
theorem dL_takeIn_15 : decode cL_takeIn 15 = .ok (.astore_n 3, 1) := by decide +kernel
theorem dL_takeIn_16 : decode cL_takeIn 16 = .ok (.iconst 2, 1) := by decide +kernel
theorem dL_takeIn_17 : decode cL_takeIn 17 = .ok (.ireturn, 1) := by decide +kernel
theorem dL_takeIn_18 : decode cL_takeIn 18 = .ok (.iconst 0, 1) := by decide +kernel
theorem dL_takeIn_19 : decode cL_takeIn 19 = .ok (.ireturn, 1) := by decide +kernel
theorem dL_hand_0 : decode cL_hand 0 = .ok (.aload_n 3, 1) := by decide +kernel
theorem dL_hand_1 : decode cL_hand 1 = .ok (.iconst 0, 1) := by decide +kernel
theorem dL_hand_2 : decode cL_hand 2 = .ok (.aload_n 0, 1) := by decide +kernel
theorem dL_hand_3 : decode cL_hand 3 = .ok (.iload_n 1, 1) := by decide +kernel
theorem dL_hand_4 : decode cL_hand 4 = .ok (.iload_n 2, 1) := by decide +kernel
theorem dL_hand_5 : decode cL_hand 5 = .ok (.invokevirtual 81, 3) := by decide +kernel
theorem dL_hand_8 : decode cL_hand 8 = .ok (.i2l, 1) := by decide +kernel
theorem dL_hand_9 : decode cL_hand 9 = .ok (.lastore, 1) := by decide +kernel
theorem dL_hand_10 : decode cL_hand 10 = .ok (.goto 11, 3) := by decide +kernel
theorem dL_hand_13 : decode cL_hand 13 = .ok (.astore 4, 2) := by decide +kernel
theorem dL_hand_15 : decode cL_hand 15 = .ok (.iconst 1, 1) := by decide +kernel
theorem dL_hand_16 : decode cL_hand 16 = .ok (.ireturn, 1) := by decide +kernel
theorem dL_hand_17 : decode cL_hand 17 = .ok (.astore 4, 2) := by decide +kernel
theorem dL_hand_19 : decode cL_hand 19 = .ok (.iconst 2, 1) := by decide +kernel
theorem dL_hand_20 : decode cL_hand 20 = .ok (.ireturn, 1) := by decide +kernel
theorem dL_hand_21 : decode cL_hand 21 = .ok (.iconst 0, 1) := by decide +kernel
theorem dL_hand_22 : decode cL_hand 22 = .ok (.ireturn, 1) := by decide +kernel
theorem dL_unseal_0 : decode cL_unseal 0 = .ok (.aload_n 2, 1) := by decide +kernel
theorem dL_unseal_1 : decode cL_unseal 1 = .ok (.iconst 0, 1) := by decide +kernel
theorem dL_unseal_2 : decode cL_unseal 2 = .ok (.aload_n 0, 1) := by decide +kernel
theorem dL_unseal_3 : decode cL_unseal 3 = .ok (.iload_n 1, 1) := by decide +kernel
theorem dL_unseal_4 : decode cL_unseal 4 = .ok (.invokevirtual 84, 3) := by decide +kernel
theorem dL_unseal_7 : decode cL_unseal 7 = .ok (.i2l, 1) := by decide +kernel
theorem dL_unseal_8 : decode cL_unseal 8 = .ok (.lastore, 1) := by decide +kernel
theorem dL_unseal_9 : decode cL_unseal 9 = .ok (.goto 9, 3) := by decide +kernel
theorem dL_unseal_12 : decode cL_unseal 12 = .ok (.astore_n 3, 1) := by decide +kernel
theorem dL_unseal_13 : decode cL_unseal 13 = .ok (.iconst 1, 1) := by decide +kernel
theorem dL_unseal_14 : decode cL_unseal 14 = .ok (.ireturn, 1) := by decide +kernel
theorem dL_unseal_15 : decode cL_unseal 15 = .ok (.astore_n 3, 1) := by decide +kernel
theorem dL_unseal_16 : decode cL_unseal 16 = .ok (.iconst 2, 1) := by decide +kernel
theorem dL_unseal_17 : decode cL_unseal 17 = .ok (.ireturn, 1) := by decide +kernel
theorem dL_unseal_18 : decode cL_unseal 18 = .ok (.iconst 0, 1) := by decide +kernel
theorem dL_unseal_19 : decode cL_unseal 19 = .ok (.ireturn, 1) := by decide +kernel
theorem dL_lose_0 : decode cL_lose 0 = .ok (.aload_n 2, 1) := by decide +kernel
theorem dL_lose_1 : decode cL_lose 1 = .ok (.iconst 0, 1) := by decide +kernel
theorem dL_lose_2 : decode cL_lose 2 = .ok (.aload_n 0, 1) := by decide +kernel
theorem dL_lose_3 : decode cL_lose 3 = .ok (.iload_n 1, 1) := by decide +kernel
theorem dL_lose_4 : decode cL_lose 4 = .ok (.invokevirtual 87, 3) := by decide +kernel
theorem dL_lose_7 : decode cL_lose 7 = .ok (.i2l, 1) := by decide +kernel
theorem dL_lose_8 : decode cL_lose 8 = .ok (.lastore, 1) := by decide +kernel
theorem dL_lose_9 : decode cL_lose 9 = .ok (.goto 9, 3) := by decide +kernel
theorem dL_lose_12 : decode cL_lose 12 = .ok (.astore_n 3, 1) := by decide +kernel
theorem dL_lose_13 : decode cL_lose 13 = .ok (.iconst 1, 1) := by decide +kernel
theorem dL_lose_14 : decode cL_lose 14 = .ok (.ireturn, 1) := by decide +kernel
theorem dL_lose_15 : decode cL_lose 15 = .ok (.astore_n 3, 1) := by decide +kernel
theorem dL_lose_16 : decode cL_lose 16 = .ok (.iconst 2, 1) := by decide +kernel
theorem dL_lose_17 : decode cL_lose 17 = .ok (.ireturn, 1) := by decide +kernel
theorem dL_lose_18 : decode cL_lose 18 = .ok (.iconst 0, 1) := by decide +kernel
theorem dL_lose_19 : decode cL_lose 19 = .ok (.ireturn, 1) := by decide +kernel
theorem dL_found_0 : decode cL_found 0 = .ok (.aload_n 3, 1) := by decide +kernel
theorem dL_found_1 : decode cL_found 1 = .ok (.iconst 0, 1) := by decide +kernel
theorem dL_found_2 : decode cL_found 2 = .ok (.aload_n 0, 1) := by decide +kernel
theorem dL_found_3 : decode cL_found 3 = .ok (.iload_n 1, 1) := by decide +kernel
theorem dL_found_4 : decode cL_found 4 = .ok (.iload_n 2, 1) := by decide +kernel
theorem dL_found_5 : decode cL_found 5 = .ok (.invokevirtual 90, 3) := by decide +kernel
theorem dL_found_8 : decode cL_found 8 = .ok (.i2l, 1) := by decide +kernel
theorem dL_found_9 : decode cL_found 9 = .ok (.lastore, 1) := by decide +kernel
theorem dL_found_10 : decode cL_found 10 = .ok (.goto 11, 3) := by decide +kernel
theorem dL_found_13 : decode cL_found 13 = .ok (.astore 4, 2) := by decide +kernel
theorem dL_found_15 : decode cL_found 15 = .ok (.iconst 1, 1) := by decide +kernel
theorem dL_found_16 : decode cL_found 16 = .ok (.ireturn, 1) := by decide +kernel
theorem dL_found_17 : decode cL_found 17 = .ok (.astore 4, 2) := by decide +kernel
theorem dL_found_19 : decode cL_found 19 = .ok (.iconst 2, 1) := by decide +kernel
theorem dL_found_20 : decode cL_found 20 = .ok (.ireturn, 1) := by decide +kernel
theorem dL_found_21 : decode cL_found 21 = .ok (.iconst 0, 1) := by decide +kernel
theorem dL_found_22 : decode cL_found 22 = .ok (.ireturn, 1) := by decide +kernel
theorem dL_exhibit_0 : decode cL_exhibit 0 = .ok (.aload_n 3, 1) := by decide +kernel
theorem dL_exhibit_1 : decode cL_exhibit 1 = .ok (.iconst 0, 1) := by decide +kernel
theorem dL_exhibit_2 : decode cL_exhibit 2 = .ok (.aload_n 0, 1) := by decide +kernel
theorem dL_exhibit_3 : decode cL_exhibit 3 = .ok (.iload_n 1, 1) := by decide +kernel
theorem dL_exhibit_4 : decode cL_exhibit 4 = .ok (.iload_n 2, 1) := by decide +kernel
theorem dL_exhibit_5 : decode cL_exhibit 5 = .ok (.invokevirtual 93, 3) := by decide +kernel
theorem dL_exhibit_8 : decode cL_exhibit 8 = .ok (.i2l, 1) := by decide +kernel
theorem dL_exhibit_9 : decode cL_exhibit 9 = .ok (.lastore, 1) := by decide +kernel
theorem dL_exhibit_10 : decode cL_exhibit 10 = .ok (.goto 7, 3) := by decide +kernel
theorem dL_exhibit_13 : decode cL_exhibit 13 = .ok (.astore 4, 2) := by decide +kernel
theorem dL_exhibit_15 : decode cL_exhibit 15 = .ok (.iconst 1, 1) := by decide +kernel
theorem dL_exhibit_16 : decode cL_exhibit 16 = .ok (.ireturn, 1) := by decide +kernel
theorem dL_exhibit_17 : decode cL_exhibit 17 = .ok (.iconst 0, 1) := by decide +kernel
theorem dL_exhibit_18 : decode cL_exhibit 18 = .ok (.ireturn, 1) := by decide +kernel
theorem dL_link_0 : decode cL_link 0 = .ok (.aload 4, 2) := by decide +kernel
theorem dL_link_2 : decode cL_link 2 = .ok (.iconst 0, 1) := by decide +kernel
theorem dL_link_3 : decode cL_link 3 = .ok (.aload_n 0, 1) := by decide +kernel
theorem dL_link_4 : decode cL_link 4 = .ok (.iload_n 1, 1) := by decide +kernel
theorem dL_link_5 : decode cL_link 5 = .ok (.iload_n 2, 1) := by decide +kernel
theorem dL_link_6 : decode cL_link 6 = .ok (.iload_n 3, 1) := by decide +kernel
theorem dL_link_7 : decode cL_link 7 = .ok (.invokevirtual 96, 3) := by decide +kernel
theorem dL_link_10 : decode cL_link 10 = .ok (.i2l, 1) := by decide +kernel
theorem dL_link_11 : decode cL_link 11 = .ok (.lastore, 1) := by decide +kernel
theorem dL_link_12 : decode cL_link 12 = .ok (.goto 7, 3) := by decide +kernel
theorem dL_link_15 : decode cL_link 15 = .ok (.astore 5, 2) := by decide +kernel
theorem dL_link_17 : decode cL_link 17 = .ok (.iconst 1, 1) := by decide +kernel
theorem dL_link_18 : decode cL_link 18 = .ok (.ireturn, 1) := by decide +kernel
theorem dL_link_19 : decode cL_link 19 = .ok (.iconst 0, 1) := by decide +kernel
theorem dL_link_20 : decode cL_link 20 = .ok (.ireturn, 1) := by decide +kernel
theorem dL_send_0 : decode cL_send 0 = .ok (.aload 4, 2) := by decide +kernel
theorem dL_send_2 : decode cL_send 2 = .ok (.iconst 0, 1) := by decide +kernel
theorem dL_send_3 : decode cL_send 3 = .ok (.aload_n 0, 1) := by decide +kernel
theorem dL_send_4 : decode cL_send 4 = .ok (.iload_n 1, 1) := by decide +kernel
theorem dL_send_5 : decode cL_send 5 = .ok (.iload_n 2, 1) := by decide +kernel
theorem dL_send_6 : decode cL_send 6 = .ok (.iload_n 3, 1) := by decide +kernel
theorem dL_send_7 : decode cL_send 7 = .ok (.invokevirtual 99, 3) := by decide +kernel
theorem dL_send_10 : decode cL_send 10 = .ok (.i2l, 1) := by decide +kernel
theorem dL_send_11 : decode cL_send 11 = .ok (.lastore, 1) := by decide +kernel
theorem dL_send_12 : decode cL_send 12 = .ok (.goto 15, 3) := by decide +kernel
theorem dL_send_15 : decode cL_send 15 = .ok (.astore 5, 2) := by decide +kernel
theorem dL_send_17 : decode cL_send 17 = .ok (.iconst 1, 1) := by decide +kernel
theorem dL_send_18 : decode cL_send 18 = .ok (.ireturn, 1) := by decide +kernel
theorem dL_send_19 : decode cL_send 19 = .ok (.astore 5, 2) := by decide +kernel
theorem dL_send_21 : decode cL_send 21 = .ok (.iconst 2, 1) := by decide +kernel
theorem dL_send_22 : decode cL_send 22 = .ok (.ireturn, 1) := by decide +kernel
theorem dL_send_23 : decode cL_send 23 = .ok (.astore 5, 2) := by decide +kernel
theorem dL_send_25 : decode cL_send 25 = .ok (.iconst 3, 1) := by decide +kernel
theorem dL_send_26 : decode cL_send 26 = .ok (.ireturn, 1) := by decide +kernel
theorem dL_send_27 : decode cL_send 27 = .ok (.iconst 0, 1) := by decide +kernel
theorem dL_send_28 : decode cL_send 28 = .ok (.ireturn, 1) := by decide +kernel
theorem dL_letter_0 : decode cL_letter 0 = .ok (.aload_n 3, 1) := by decide +kernel
theorem dL_letter_1 : decode cL_letter 1 = .ok (.iconst 0, 1) := by decide +kernel
theorem dL_letter_2 : decode cL_letter 2 = .ok (.aload_n 0, 1) := by decide +kernel
theorem dL_letter_3 : decode cL_letter 3 = .ok (.iload_n 1, 1) := by decide +kernel
theorem dL_letter_4 : decode cL_letter 4 = .ok (.iload_n 2, 1) := by decide +kernel
theorem dL_letter_5 : decode cL_letter 5 = .ok (.invokevirtual 102, 3) := by decide +kernel
theorem dL_letter_8 : decode cL_letter 8 = .ok (.i2l, 1) := by decide +kernel
theorem dL_letter_9 : decode cL_letter 9 = .ok (.lastore, 1) := by decide +kernel
theorem dL_letter_10 : decode cL_letter 10 = .ok (.goto 7, 3) := by decide +kernel
theorem dL_letter_13 : decode cL_letter 13 = .ok (.astore 4, 2) := by decide +kernel
theorem dL_letter_15 : decode cL_letter 15 = .ok (.iconst 1, 1) := by decide +kernel
theorem dL_letter_16 : decode cL_letter 16 = .ok (.ireturn, 1) := by decide +kernel
theorem dL_letter_17 : decode cL_letter 17 = .ok (.iconst 0, 1) := by decide +kernel
theorem dL_letter_18 : decode cL_letter 18 = .ok (.ireturn, 1) := by decide +kernel
theorem dL_pass_0 : decode cL_pass 0 = .ok (.aload_n 2, 1) := by decide +kernel
theorem dL_pass_1 : decode cL_pass 1 = .ok (.iconst 0, 1) := by decide +kernel
theorem dL_pass_2 : decode cL_pass 2 = .ok (.aload_n 0, 1) := by decide +kernel
theorem dL_pass_3 : decode cL_pass 3 = .ok (.iload_n 1, 1) := by decide +kernel
theorem dL_pass_4 : decode cL_pass 4 = .ok (.invokevirtual 105, 3) := by decide +kernel
theorem dL_pass_7 : decode cL_pass 7 = .ok (.i2l, 1) := by decide +kernel
theorem dL_pass_8 : decode cL_pass 8 = .ok (.lastore, 1) := by decide +kernel
theorem dL_pass_9 : decode cL_pass 9 = .ok (.goto 6, 3) := by decide +kernel
theorem dL_pass_12 : decode cL_pass 12 = .ok (.astore_n 3, 1) := by decide +kernel
theorem dL_pass_13 : decode cL_pass 13 = .ok (.iconst 1, 1) := by decide +kernel
theorem dL_pass_14 : decode cL_pass 14 = .ok (.ireturn, 1) := by decide +kernel
theorem dL_pass_15 : decode cL_pass 15 = .ok (.iconst 0, 1) := by decide +kernel
theorem dL_pass_16 : decode cL_pass 16 = .ok (.ireturn, 1) := by decide +kernel
theorem dL_arrives_0 : decode cL_arrives 0 = .ok (.aload_n 2, 1) := by decide +kernel
theorem dL_arrives_1 : decode cL_arrives 1 = .ok (.iconst 0, 1) := by decide +kernel
theorem dL_arrives_2 : decode cL_arrives 2 = .ok (.aload_n 0, 1) := by decide +kernel
theorem dL_arrives_3 : decode cL_arrives 3 = .ok (.iload_n 1, 1) := by decide +kernel
theorem dL_arrives_4 : decode cL_arrives 4 = .ok (.invokevirtual 108, 3) := by decide +kernel
theorem dL_arrives_7 : decode cL_arrives 7 = .ok (.i2l, 1) := by decide +kernel
theorem dL_arrives_8 : decode cL_arrives 8 = .ok (.lastore, 1) := by decide +kernel
theorem dL_arrives_9 : decode cL_arrives 9 = .ok (.goto 6, 3) := by decide +kernel
theorem dL_arrives_12 : decode cL_arrives 12 = .ok (.astore_n 3, 1) := by decide +kernel
theorem dL_arrives_13 : decode cL_arrives 13 = .ok (.iconst 1, 1) := by decide +kernel
theorem dL_arrives_14 : decode cL_arrives 14 = .ok (.ireturn, 1) := by decide +kernel
theorem dL_arrives_15 : decode cL_arrives 15 = .ok (.iconst 0, 1) := by decide +kernel
theorem dL_arrives_16 : decode cL_arrives 16 = .ok (.ireturn, 1) := by decide +kernel
theorem dL_count_0 : decode cL_count 0 = .ok (.aload_n 2, 1) := by decide +kernel
theorem dL_count_1 : decode cL_count 1 = .ok (.iconst 0, 1) := by decide +kernel
theorem dL_count_2 : decode cL_count 2 = .ok (.aload_n 0, 1) := by decide +kernel
theorem dL_count_3 : decode cL_count 3 = .ok (.iload_n 1, 1) := by decide +kernel
theorem dL_count_4 : decode cL_count 4 = .ok (.invokevirtual 111, 3) := by decide +kernel
theorem dL_count_7 : decode cL_count 7 = .ok (.i2l, 1) := by decide +kernel
theorem dL_count_8 : decode cL_count 8 = .ok (.lastore, 1) := by decide +kernel
theorem dL_count_9 : decode cL_count 9 = .ok (.goto 6, 3) := by decide +kernel
theorem dL_count_12 : decode cL_count 12 = .ok (.astore_n 3, 1) := by decide +kernel
theorem dL_count_13 : decode cL_count 13 = .ok (.iconst 1, 1) := by decide +kernel
theorem dL_count_14 : decode cL_count 14 = .ok (.ireturn, 1) := by decide +kernel
theorem dL_count_15 : decode cL_count 15 = .ok (.iconst 0, 1) := by decide +kernel
theorem dL_count_16 : decode cL_count 16 = .ok (.ireturn, 1) := by decide +kernel
theorem dL_sees_0 : decode cL_sees 0 = .ok (.aload_n 2, 1) := by decide +kernel
theorem dL_sees_1 : decode cL_sees 1 = .ok (.iconst 0, 1) := by decide +kernel
theorem dL_sees_2 : decode cL_sees 2 = .ok (.aload_n 0, 1) := by decide +kernel
theorem dL_sees_3 : decode cL_sees 3 = .ok (.iload_n 1, 1) := by decide +kernel
theorem dL_sees_4 : decode cL_sees 4 = .ok (.invokevirtual 114, 3) := by decide +kernel
theorem dL_sees_7 : decode cL_sees 7 = .ok (.i2l, 1) := by decide +kernel
theorem dL_sees_8 : decode cL_sees 8 = .ok (.lastore, 1) := by decide +kernel
theorem dL_sees_9 : decode cL_sees 9 = .ok (.goto 6, 3) := by decide +kernel
theorem dL_sees_12 : decode cL_sees 12 = .ok (.astore_n 3, 1) := by decide +kernel
theorem dL_sees_13 : decode cL_sees 13 = .ok (.iconst 1, 1) := by decide +kernel
theorem dL_sees_14 : decode cL_sees 14 = .ok (.ireturn, 1) := by decide +kernel
theorem dL_sees_15 : decode cL_sees 15 = .ok (.iconst 0, 1) := by decide +kernel
theorem dL_sees_16 : decode cL_sees 16 = .ok (.ireturn, 1) := by decide +kernel
end
section
/-! ===== THE STORE: a picture of the heap, field by field; each address has a kind (kind % 32: what it is; kind / 32: a name of its own) ===== -/
abbrev gS : Type := (Nat → Nat) × (Nat → Nat) × (Nat → Nat → Nat → Int32) × (Nat → Nat → Nat → Option Nat) × (Nat → Nat → Nat → Int64)
abbrev gK (S : gS) : Nat → Nat := S.1
abbrev gL (S : gS) : Nat → Nat := S.2.1
abbrev gX (S : gS) : Nat → Nat → Nat → Int32 := S.2.2.1
abbrev gY (S : gS) : Nat → Nat → Nat → Option Nat := S.2.2.2.1
abbrev gZ (S : gS) : Nat → Nat → Nat → Int64 := S.2.2.2.2
def u3 {α : Type} (f : Nat → Nat → Nat → α) (κ p q : Nat) (v : α) : Nat → Nat → Nat → α := fun a b c => if a = κ ∧ b = p ∧ c = q then v else f a b c
def u2 {α : Type} (f : Nat → Nat → Nat → α) (κ p : Nat) (v : Nat → α) : Nat → Nat → Nat → α := fun a b c => if a = κ ∧ b = p then v c else f a b c
theorem u3_same {α : Type} (f : Nat → Nat → Nat → α) (κ p q : Nat) (v : α) : u3 f κ p q v κ p q = v := if_pos ⟨rfl, rfl, rfl⟩
theorem u3_k {α : Type} (f : Nat → Nat → Nat → α) {κ p q a b c : Nat} (v : α) (h : a ≠ κ) : u3 f κ p q v a b c = f a b c := if_neg fun z => h z.1
theorem u3_p {α : Type} (f : Nat → Nat → Nat → α) {κ p q a b c : Nat} (v : α) (h : b ≠ p) : u3 f κ p q v a b c = f a b c := if_neg fun z => h z.2.1
theorem u3_q {α : Type} (f : Nat → Nat → Nat → α) {κ p q a b c : Nat} (v : α) (h : c ≠ q) : u3 f κ p q v a b c = f a b c := if_neg fun z => h z.2.2
theorem u2_same {α : Type} (f : Nat → Nat → Nat → α) (κ p : Nat) (v : Nat → α) : u2 f κ p v κ p = v := funext fun _ => if_pos ⟨rfl, rfl⟩
theorem u2_k {α : Type} (f : Nat → Nat → Nat → α) {κ p a b c : Nat} (v : Nat → α) (h : a ≠ κ) : u2 f κ p v a b c = f a b c := if_neg fun z => h z.1
theorem u2_p {α : Type} (f : Nat → Nat → Nat → α) {κ p a b c : Nat} (v : Nat → α) (h : b ≠ p) : u2 f κ p v a b c = f a b c := if_neg fun z => h z.2
theorem u3_row {α : Type} (f : Nat → Nat → Nat → α) (κ p q : Nat) (v : α) : u3 f κ p q v κ p = fun j => if j = q then v else f κ p j := funext fun j => by
  by_cases h : j = q
  · subst h; rw [u3_same, if_pos rfl]
  · rw [u3_q f v h, if_neg h]
abbrev sX (S : gS) (κ p q : Nat) (v : Int32) : gS := (S.1, S.2.1, u3 S.2.2.1 κ p q v, S.2.2.2.1, S.2.2.2.2)
abbrev sY (S : gS) (κ p q : Nat) (v : Option Nat) : gS := (S.1, S.2.1, S.2.2.1, u3 S.2.2.2.1 κ p q v, S.2.2.2.2)
abbrev sZ (S : gS) (κ p q : Nat) (v : Int64) : gS := (S.1, S.2.1, S.2.2.1, S.2.2.2.1, u3 S.2.2.2.2 κ p q v)
abbrev sXr (S : gS) (κ p : Nat) (v : Nat → Int32) : gS := (S.1, S.2.1, u2 S.2.2.1 κ p v, S.2.2.2.1, S.2.2.2.2)
abbrev sYr (S : gS) (κ p : Nat) (v : Nat → Option Nat) : gS := (S.1, S.2.1, S.2.2.1, u2 S.2.2.2.1 κ p v, S.2.2.2.2)
/-- a class's fields: is it a reference -/
def gFl (ci : Nat) : List Bool := match ci with
  | 0 => [false, true, false]
  | 1 => [false, false]
  | 2 => [true, true, true, true, false, true, false, false]
  | 3 => [true, true, true, false, false, false, true, false, false, false, false, false, false, false]
  | 4 => [false, true, true, false, false, true]
  | 5 => [true, false, true, false, false, false]
  | 6 => [false, true, true, false]
  | 7 => [false, false, false, false, false]
  | 8 => [true, true, true, true, true, true, false, true, false, true, false, false]
  | 9 => [false, true, true, true, true, true, true, true, true]
  | 10 => [false, true, false, false, true, false, false, true, false, true, true, false, true, true, true, true, true, false, true, true, true, true, true, false, true, true, true, true, true, true, true, true, false, false, false]
  | _ => []
/-- an object's fields at their values when it is made -/
def sN (S : gS) (κ a : Nat) : gS := (va_up S.1 a κ, S.2.1, (fun x b c => if x = κ ∧ c = a then 0 else S.2.2.1 x b c), (fun x b c => if x = κ ∧ c = a then none else S.2.2.2.1 x b c), S.2.2.2.2)
/-- an array of n places when it is made -/
def sM (S : gS) (κ a n : Nat) : gS := (va_up S.1 a κ, va_up S.2.1 a n, (fun x b c => if x = κ ∧ b = a then 0 else S.2.2.1 x b c), (fun x b c => if x = κ ∧ b = a then none else S.2.2.2.1 x b c), (fun x b c => if x = κ ∧ b = a then 0 else S.2.2.2.2 x b c))
def gRow (S : gS) (κ a : Nat) : Nat → List Bool → List Value
  | _, [] => []
  | k, true :: l => va_rf (gY S κ k a) :: gRow S κ a (k + 1) l
  | k, false :: l => .int (gX S κ k a) :: gRow S κ a (k + 1) l
theorem gRow_at (S : gS) (κ a : Nat) : ∀ (l : List Bool) (k i : Nat), (gRow S κ a k l)[i]? = l[i]?.map (fun b => if b then va_rf (gY S κ (k + i) a) else .int (gX S κ (k + i) a))
  | [], k, i => by simp [gRow]
  | true :: l, k, 0 => by simp [gRow]
  | false :: l, k, 0 => by simp [gRow]
  | true :: l, k, i + 1 => by
    rw [gRow, List.getElem?_cons_succ, List.getElem?_cons_succ, gRow_at S κ a l (k + 1) i, show k + 1 + i = k + (i + 1) by omega]
  | false :: l, k, i + 1 => by
    rw [gRow, List.getElem?_cons_succ, List.getElem?_cons_succ, gRow_at S κ a l (k + 1) i, show k + 1 + i = k + (i + 1) by omega]
theorem gRow_len (S : gS) (κ a : Nat) : ∀ (l : List Bool) (k : Nat), (gRow S κ a k l).length = l.length
  | [], k => rfl
  | true :: l, k => by rw [gRow, List.length_cons, List.length_cons, gRow_len S κ a l]
  | false :: l, k => by rw [gRow, List.length_cons, List.length_cons, gRow_len S κ a l]
theorem gRow_eq {S T : gS} {κ a : Nat} (hx : ∀ k, gX T κ k a = gX S κ k a) (hy : ∀ k, gY T κ k a = gY S κ k a) (k : Nat) (l : List Bool) : gRow T κ a k l = gRow S κ a k l := by
  apply List.ext_getElem?
  intro i
  rw [gRow_at, gRow_at, hx, hy]
/-- what lies at an address -/
def gEnt (cT : Nat → ClassId) (S : gS) (a : Nat) : va_E :=
  if gK S a % 32 < 16 then .inr (gK S a % 32 - 1, gRow S (gK S a) a 0 (gFl (gK S a % 32 - 1)))
  else if gK S a % 32 < 18 then .inl (cT (gK S a % 32), (gL S a, .inl (gX S (gK S a) a)))
  else if gK S a % 32 = 18 then .inl (cT (gK S a % 32), (gL S a, .inr (.inl (gZ S (gK S a) a))))
  else .inl (cT (gK S a % 32), (gL S a, .inr (.inr (.inr (.inr (gY S (gK S a) a))))))
theorem gEnt_o {cT : Nat → ClassId} {S : gS} {a κ : Nat} (h : gK S a = κ) (hk : κ % 32 < 16) : gEnt cT S a = .inr (κ % 32 - 1, gRow S κ a 0 (gFl (κ % 32 - 1))) := by
  unfold gEnt
  rw [h, if_pos hk]
theorem gEnt_i {cT : Nat → ClassId} {S : gS} {a κ : Nat} (h : gK S a = κ) (hk : κ % 32 = 16 ∨ κ % 32 = 17) : gEnt cT S a = .inl (cT (κ % 32), (gL S a, .inl (gX S κ a))) := by
  unfold gEnt
  rw [h, if_neg (by omega), if_pos (by omega)]
theorem gEnt_l {cT : Nat → ClassId} {S : gS} {a κ : Nat} (h : gK S a = κ) (hk : κ % 32 = 18) : gEnt cT S a = .inl (cT 18, (gL S a, .inr (.inl (gZ S κ a)))) := by
  unfold gEnt
  rw [h, if_neg (by omega), if_neg (by omega), if_pos hk, hk]
theorem gEnt_q {cT : Nat → ClassId} {S : gS} {a κ : Nat} (h : gK S a = κ) (hk : 18 < κ % 32) : gEnt cT S a = .inl (cT (κ % 32), (gL S a, .inr (.inr (.inr (.inr (gY S κ a)))))) := by
  unfold gEnt
  rw [h, if_neg (by omega), if_neg (by omega), if_neg (by omega)]
/-- the same at an address: kind, length, and all that is kept under it -/
theorem gEnt_eq {cT : Nat → ClassId} {S T : gS} {b : Nat} (hk : gK T b = gK S b) (hl : 16 ≤ gK S b % 32 → gL T b = gL S b) (hx : ∀ k, gK S b % 32 < 16 → gX T (gK S b) k b = gX S (gK S b) k b) (hy : ∀ k, gK S b % 32 < 16 → gY T (gK S b) k b = gY S (gK S b) k b)
    (ax : 16 ≤ gK S b % 32 → gX T (gK S b) b = gX S (gK S b) b) (ay : 16 ≤ gK S b % 32 → gY T (gK S b) b = gY S (gK S b) b) (az : 16 ≤ gK S b % 32 → gZ T (gK S b) b = gZ S (gK S b) b) : gEnt cT T b = gEnt cT S b := by
  unfold gEnt
  rw [hk]
  by_cases h1 : gK S b % 32 < 16
  · rw [if_pos h1, if_pos h1, gRow_eq (fun k => hx k h1) (fun k => hy k h1)]
  · rw [if_neg h1, if_neg h1, hl (by omega), ax (by omega), ay (by omega), az (by omega)]
/-- the list of cells is the store's -/
def gWs (cT : Nat → ClassId) (S : gS) (ws : va_W) : Prop := (∀ (k : Nat) (q : Nat × va_E), ws[k]? = some q → gK S q.1 ≠ 0 ∧ q.2 = gEnt cT S q.1) ∧ ∀ a, gK S a ≠ 0 → ∃ k : Nat, ws[k]? = some (a, gEnt cT S a)
theorem gWs.put {cT : Nat → ClassId} {S T : gS} {ws : va_W} {A : Nat → Prop} (h : gWs cT S ws) (hD : va_D A ws) {k a : Nat} {e : va_E} (hk : ws[k]? = some (a, e)) (hK : gK T = gK S) (ho : ∀ b, b ≠ a → gK S b ≠ 0 → gEnt cT T b = gEnt cT S b) : gWs cT T (ws.set k (a, gEnt cT T a)) := by
  have hl : k < ws.length := (List.getElem?_eq_some_iff.mp hk).1
  refine ⟨fun j q hq => ?_, fun b hb => ?_⟩
  · by_cases hj : j = k
    · subst hj
      rw [List.getElem?_set_self hl] at hq
      cases hq
      rw [hK]
      exact ⟨(h.1 _ _ hk).1, rfl⟩
    · rw [List.getElem?_set_ne (fun z => hj z.symm)] at hq
      obtain ⟨h1, h2⟩ := h.1 j q hq
      have hn : q.1 ≠ a := fun z => hj (hD.1 j k q (a, e) hq hk z)
      rw [hK]
      exact ⟨h1, by rw [ho q.1 hn h1]; exact h2⟩
  · rw [hK] at hb
    by_cases hba : b = a
    · subst hba
      exact ⟨k, List.getElem?_set_self hl⟩
    · obtain ⟨j, hj⟩ := h.2 b hb
      have hjk : j ≠ k := fun z => by
        subst z
        rw [hk] at hj
        cases hj
        exact hba rfl
      refine ⟨j, ?_⟩
      rw [List.getElem?_set_ne (fun z => hjk z.symm), hj, ho b hba hb]
theorem gWs.fresh {cT : Nat → ClassId} {S : gS} {ws : va_W} {A : Nat → Prop} (h : gWs cT S ws) {q : Nat} {e : va_E} (hD : va_D A (ws ++ [(q, e)])) : gK S q = 0 := by
  apply Classical.byContradiction
  intro hn
  obtain ⟨k, hk⟩ := h.2 q hn
  have hl : k < ws.length := (List.getElem?_eq_some_iff.mp hk).1
  have h1 : (ws ++ [(q, e)])[k]? = some (q, gEnt cT S q) := by rw [List.getElem?_append_left hl]; exact hk
  have h2 : (ws ++ [(q, e)])[ws.length]? = some (q, e) := by rw [List.getElem?_append_right (Nat.le_refl _), Nat.sub_self]; rfl
  have h3 := hD.1 _ _ _ _ h1 h2 rfl
  omega
theorem gWs.new {cT : Nat → ClassId} {S T : gS} {ws : va_W} (h : gWs cT S ws) {q κ : Nat} (hq : gK S q = 0) (h0 : κ ≠ 0) (hK : gK T = va_up (gK S) q κ) (ho : ∀ b, b ≠ q → gK S b ≠ 0 → gEnt cT T b = gEnt cT S b) : gWs cT T (ws ++ [(q, gEnt cT T q)]) := by
  have hne : ∀ b, gK S b ≠ 0 → b ≠ q := fun b hb z => hb (by rw [z]; exact hq)
  have hKn : ∀ b, b ≠ q → gK T b = gK S b := fun b hb => by rw [hK]; exact va_up_ne _ _ hb
  refine ⟨fun j x hx => ?_, fun b hb => ?_⟩
  · by_cases hj : j < ws.length
    · rw [List.getElem?_append_left hj] at hx
      obtain ⟨h1, h2⟩ := h.1 j x hx
      have hn := hne _ h1
      exact ⟨by rw [hKn _ hn]; exact h1, by rw [ho _ hn h1]; exact h2⟩
    · rw [List.getElem?_append_right (by omega)] at hx
      have hz : j - ws.length < 1 := (List.getElem?_eq_some_iff.mp hx).1
      have : j - ws.length = 0 := by omega
      rw [this] at hx
      cases hx
      exact ⟨by rw [hK, va_up_self]; exact h0, rfl⟩
  · by_cases hbq : b = q
    · subst hbq
      exact ⟨ws.length, by rw [List.getElem?_append_right (Nat.le_refl _), Nat.sub_self]; rfl⟩
    · have hb' : gK S b ≠ 0 := by rw [← hKn b hbq]; exact hb
      obtain ⟨j, hj⟩ := h.2 b hb'
      have hl : j < ws.length := (List.getElem?_eq_some_iff.mp hj).1
      exact ⟨j, by rw [List.getElem?_append_left hl, hj, ho b hbq hb']⟩
/-! locals by their places -/
def gH (ls : Array Slot) (nL : Nat) (lo : List (Option Value)) : Prop := ls.size = nL ∧ lv_wf ls ∧ lo.length = nL ∧ ∀ (i : Nat) (v : Value), lo[i]? = some (some v) → ls[i]? = some (.val v)
def gPrs (lo : List (Option Value)) : List (Nat × Value) := (List.range lo.length).filterMap (fun j => (lo[j]?.join).map (fun w => (j, w)))
theorem gPrs_mem {lo : List (Option Value)} {q : Nat × Value} : q ∈ gPrs lo ↔ lo[q.1]? = some (some q.2) := by
  obtain ⟨j, w⟩ := q
  unfold gPrs
  rw [List.mem_filterMap]
  constructor
  · rintro ⟨i, -, hi⟩
    cases h : lo[i]? with
    | none => rw [h] at hi; simp at hi
    | some x =>
      cases x with
      | none => rw [h] at hi; simp at hi
      | some v =>
        rw [h] at hi
        simp at hi
        obtain ⟨rfl, rfl⟩ := hi
        exact h
  · intro h
    have hl : j < lo.length := (List.getElem?_eq_some_iff.mp h).1
    exact ⟨j, List.mem_range.mpr hl, by rw [h]; rfl⟩
theorem gH.has {ls : Array Slot} {nL : Nat} {lo : List (Option Value)} (h : gH ls nL lo) : lv_has ls nL (gPrs lo) := ⟨h.1, h.2.1, fun q hq => h.2.2.2 _ _ (gPrs_mem.mp hq)⟩
def g_c1 : Option Value → Bool
  | some (.long _) => false
  | some (.double _) => false
  | _ => true
theorem g_c1_of {w : Value} (h : g_c1 (some w) = true) : w.category = 1 := by cases w <;> first | rfl | cases h
theorem gH.st1 {ls ls' : Array Slot} {nL i : Nat} {lo lo' : List (Option Value)} {v : Value} (h : gH ls nL lo) (h' : lv_has ls' nL ((i, v) :: (gPrs lo).filter (fun q => !(q.1 == i) && !(q.1 + 1 == i && q.2.category == 2)))) (hlen : lo'.length = lo.length)
    (hc : ∀ (j : Nat) (x : Option Value), i = j + 1 → lo[j]? = some x → g_c1 x = true) (hv : lo'[i]? = some (some v)) (ho : ∀ j, j ≠ i → lo'[j]? = lo[j]?) : gH ls' nL lo' := by
  refine ⟨h'.1, h'.2.1, hlen.trans h.2.2.1, fun j w hj => ?_⟩
  refine h'.2.2 (j, w) ?_
  by_cases hji : j = i
  · subst hji
    rw [hv] at hj
    cases hj
    exact List.mem_cons_self
  · rw [ho j hji] at hj
    refine List.mem_cons_of_mem _ (List.mem_filter.mpr ⟨gPrs_mem.mpr hj, ?_⟩)
    by_cases h2 : j + 1 = i
    · have h3 := g_c1_of (hc j _ h2.symm hj)
      simp [hji, h3]
    · simp [hji, h2]
theorem gH.st2 {ls ls' : Array Slot} {nL i : Nat} {lo lo' : List (Option Value)} {v : Value} (h : gH ls nL lo) (h' : lv_has ls' nL ((i, v) :: (gPrs lo).filter (fun q => !(q.1 == i) && (!(q.1 == i + 1) && !(q.1 + 1 == i && q.2.category == 2))))) (hlen : lo'.length = lo.length)
    (hc : ∀ (j : Nat) (x : Option Value), i = j + 1 → lo[j]? = some x → g_c1 x = true) (hv : lo'[i]? = some (some v)) (hn : lo'[i + 1]? = some none) (ho : ∀ j, j ≠ i → j ≠ i + 1 → lo'[j]? = lo[j]?) : gH ls' nL lo' := by
  refine ⟨h'.1, h'.2.1, hlen.trans h.2.2.1, fun j w hj => ?_⟩
  refine h'.2.2 (j, w) ?_
  by_cases hji : j = i
  · subst hji
    rw [hv] at hj
    cases hj
    exact List.mem_cons_self
  · have hj1 : j ≠ i + 1 := fun z => by rw [z, hn] at hj; cases hj
    rw [ho j hji hj1] at hj
    refine List.mem_cons_of_mem _ (List.mem_filter.mpr ⟨gPrs_mem.mpr hj, ?_⟩)
    by_cases h2 : j + 1 = i
    · have h3 := g_c1_of (hc j _ h2.symm hj)
      simp [hji, hj1, h3]
    · simp [hji, hj1, h2]
end
section
/-! ===== THE JUDGEMENT gW: the machine at pc with locals lo, stack st, store S, having made k cells of sl slots ===== -/
abbrev gC : Type := Program × Launch × Env × Room × State × MethodId × Array Value × List Frame × Method × Code × (State → Prop) × (Nat → Prop) × va_G × (Nat → ClassId) × Nat
def gTy (t : Nat) : FieldType := match t with
  | 16 => .byte
  | 17 => .int
  | 18 => .long
  | 19 => .object "java/lang/Object"
  | _ => .array .int
def gT (cT : Nat → ClassId) : List (ClassId × FieldType) := [(cT 16, .byte), (cT 17, .int), (cT 18, .long), (cT 19, .object "java/lang/Object"), (cT 20, .array .int)]
def gWords : List Cond := lw_tbl.filter goodWord
def gR (D : va_G) (cT : Nat → ClassId) (A : Nat → Prop) (S : gS) (H : Heap) : Prop := ∃ ws, va_P D vwCl ws H ∧ va_D A ws ∧ gWs cT S ws
def gW (Γ : gC) (pc : Nat) (lo : List (Option Value)) (st : List Value) (S : gS) (k sl : Nat) : Prop :=
  match Γ with
  | (p, l, e, R, s, m, args, below, meth, c, Q, A, D, cT, _) => ∀ (H : Heap) (locs : List Loc) (ls : Array Slot), gR D cT A S H → va_S A s.heap H locs → gH ls c.maxLocals lo → W p l e R s m args below meth c H locs k sl Q (F0 m pc ls st)
/-- the constants' texts, where they lie -/
def gStr (U : State) : Prop := ∀ own k tx, Cond.stringRef own k tx ∈ gWords → ∃ a, vk_R own k tx a U
/-- what lies still: the statics -/
def gV (d0 : Nat) (A : Nat → Prop) (U : State) (H : Heap) : Prop := vx_Zq Bundle.tN "UNASSIGNED_STACK" Bundle.steD A U H ∧ vx_Zq Bundle.tN "SUPPRESSED_SENTINEL" Bundle.listD A U H ∧ va_Z "java/util/ArrayList" "DEFAULTCAPACITY_EMPTY_ELEMENTDATA" "[Ljava/lang/Object;" (.ref d0) A U H ∧ va_T (.object "java/lang/Object") d0 0 (fun _ => .null) A U H ∧ gStr U
def gOK (Γ : gC) (own : String) (cc : ByteArray) (n mc ms : Nat) : Prop :=
  match Γ with
  | (p, _, _, R, s, m, args, _, _, c, _, A, D, cT, d0) => p.tables.exec = Jvm.exec ∧ c.code = cc ∧ s.vm.findClass own = some m.cls ∧ (∀ w ∈ gWords, w.before args s = true) ∧ va_K D vwCl (gT cT) s ∧ (∀ q, s.heap.size ≤ q → A q) ∧ gV d0 A s s.heap ∧ R.frames = n ∧ R.locals = 36 * n + 16 ∧ R.cells = mc ∧ R.slots = ms
section GROWS
variable {Γ : gC} {own : String} {cc : ByteArray} {n mc ms pc : Nat} {lo lo' : List (Option Value)} {st : List Value} {S : gS} {k sl : Nat}
theorem gW.wid {k' sl' : Nat} (h1 : k ≤ k') (h2 : sl ≤ sl') (kk : gW Γ pc lo st S k' sl') : gW Γ pc lo st S k sl := by
  obtain ⟨p, l, e1, R, s, m, args, below, meth, c, Q, A, D, cT, d0⟩ := Γ
  intro H locs ls hR hS hL
  exact W.widen h1 h2 (kk H locs ls hR hS hL)
def gSt (i : Nat) (v : Value) (lo lo' : List (Option Value)) : Prop := lo'.length = lo.length ∧ (∀ (j : Nat) (x : Option Value), i = j + 1 → lo[j]? = some x → g_c1 x = true) ∧ lo'[i]? = some (some v) ∧ ∀ j, j ≠ i → lo'[j]? = lo[j]?
def gSt2 (i : Nat) (v : Value) (lo lo' : List (Option Value)) : Prop := lo'.length = lo.length ∧ (∀ (j : Nat) (x : Option Value), i = j + 1 → lo[j]? = some x → g_c1 x = true) ∧ lo'[i]? = some (some v) ∧ lo'[i + 1]? = some none ∧ ∀ j, j ≠ i → j ≠ i + 1 → lo'[j]? = lo[j]?
theorem gSt.lt {i : Nat} {v : Value} (h : gSt i v lo lo') : i < lo.length := by
  rw [← h.1]
  exact (List.getElem?_eq_some_iff.mp h.2.2.1).1
theorem gSt2.lt {i : Nat} {v : Value} (h : gSt2 i v lo lo') : i + 1 < lo.length := by
  rw [← h.1]
  exact (List.getElem?_eq_some_iff.mp h.2.2.2.1).1
theorem gSt_gen (pre : List (Option Value)) (x : Option Value) (r : List (Option Value)) (v : Value) (h : ∀ y, pre.getLast? = some y → g_c1 y = true) : gSt pre.length v (pre ++ x :: r) (pre ++ some v :: r) := by
  refine ⟨by simp, fun j y hj hy => h y ?_, by simp, fun j hj => ?_⟩
  · rw [List.getElem?_append_left (by omega)] at hy
    rw [List.getLast?_eq_getElem?, show pre.length - 1 = j by omega]
    exact hy
  · by_cases hl : j < pre.length
    · rw [List.getElem?_append_left hl, List.getElem?_append_left hl]
    · rw [List.getElem?_append_right (by omega), List.getElem?_append_right (by omega)]
      obtain ⟨d, hd⟩ : ∃ d, j - pre.length = d + 1 := ⟨j - pre.length - 1, by omega⟩
      rw [hd, List.getElem?_cons_succ, List.getElem?_cons_succ]
theorem gSt2_gen (pre : List (Option Value)) (x y : Option Value) (r : List (Option Value)) (v : Value) (h : ∀ y, pre.getLast? = some y → g_c1 y = true) : gSt2 pre.length v (pre ++ x :: y :: r) (pre ++ some v :: none :: r) := by
  refine ⟨by simp, fun j y hj hy => h y ?_, by simp, by simp, fun j hj hj1 => ?_⟩
  · rw [List.getElem?_append_left (by omega)] at hy
    rw [List.getLast?_eq_getElem?, show pre.length - 1 = j by omega]
    exact hy
  · by_cases hl : j < pre.length
    · rw [List.getElem?_append_left hl, List.getElem?_append_left hl]
    · rw [List.getElem?_append_right (by omega), List.getElem?_append_right (by omega)]
      obtain ⟨d, hd⟩ : ∃ d, j - pre.length = d + 2 := ⟨j - pre.length - 2, by omega⟩
      rw [hd, List.getElem?_cons_succ, List.getElem?_cons_succ, List.getElem?_cons_succ, List.getElem?_cons_succ]
theorem gSt_0 {x0 : Option Value} {r : List (Option Value)} {v : Value} : gSt 0 v (x0 :: r) (some v :: r) := gSt_gen [] x0 r v (fun y hy => by simp at hy)
theorem gSt_1 {x0 x1 : Option Value} {r : List (Option Value)} {v : Value} (h : g_c1 x0 = true) : gSt 1 v (x0 :: x1 :: r) (x0 :: some v :: r) := gSt_gen [x0] x1 r v (fun y hy => by simp at hy; rw [← hy]; exact h)
theorem gSt_2 {x0 x1 x2 : Option Value} {r : List (Option Value)} {v : Value} (h : g_c1 x1 = true) : gSt 2 v (x0 :: x1 :: x2 :: r) (x0 :: x1 :: some v :: r) := gSt_gen [x0, x1] x2 r v (fun y hy => by simp at hy; rw [← hy]; exact h)
theorem gSt_3 {x0 x1 x2 x3 : Option Value} {r : List (Option Value)} {v : Value} (h : g_c1 x2 = true) : gSt 3 v (x0 :: x1 :: x2 :: x3 :: r) (x0 :: x1 :: x2 :: some v :: r) := gSt_gen [x0, x1, x2] x3 r v (fun y hy => by simp at hy; rw [← hy]; exact h)
theorem gSt_4 {x0 x1 x2 x3 x4 : Option Value} {r : List (Option Value)} {v : Value} (h : g_c1 x3 = true) : gSt 4 v (x0 :: x1 :: x2 :: x3 :: x4 :: r) (x0 :: x1 :: x2 :: x3 :: some v :: r) := gSt_gen [x0, x1, x2, x3] x4 r v (fun y hy => by simp at hy; rw [← hy]; exact h)
theorem gSt_5 {x0 x1 x2 x3 x4 x5 : Option Value} {r : List (Option Value)} {v : Value} (h : g_c1 x4 = true) : gSt 5 v (x0 :: x1 :: x2 :: x3 :: x4 :: x5 :: r) (x0 :: x1 :: x2 :: x3 :: x4 :: some v :: r) := gSt_gen [x0, x1, x2, x3, x4] x5 r v (fun y hy => by simp at hy; rw [← hy]; exact h)
theorem gSt_6 {x0 x1 x2 x3 x4 x5 x6 : Option Value} {r : List (Option Value)} {v : Value} (h : g_c1 x5 = true) : gSt 6 v (x0 :: x1 :: x2 :: x3 :: x4 :: x5 :: x6 :: r) (x0 :: x1 :: x2 :: x3 :: x4 :: x5 :: some v :: r) := gSt_gen [x0, x1, x2, x3, x4, x5] x6 r v (fun y hy => by simp at hy; rw [← hy]; exact h)
theorem gSt_7 {x0 x1 x2 x3 x4 x5 x6 x7 : Option Value} {r : List (Option Value)} {v : Value} (h : g_c1 x6 = true) : gSt 7 v (x0 :: x1 :: x2 :: x3 :: x4 :: x5 :: x6 :: x7 :: r) (x0 :: x1 :: x2 :: x3 :: x4 :: x5 :: x6 :: some v :: r) := gSt_gen [x0, x1, x2, x3, x4, x5, x6] x7 r v (fun y hy => by simp at hy; rw [← hy]; exact h)
theorem gSt_8 {x0 x1 x2 x3 x4 x5 x6 x7 x8 : Option Value} {r : List (Option Value)} {v : Value} (h : g_c1 x7 = true) : gSt 8 v (x0 :: x1 :: x2 :: x3 :: x4 :: x5 :: x6 :: x7 :: x8 :: r) (x0 :: x1 :: x2 :: x3 :: x4 :: x5 :: x6 :: x7 :: some v :: r) := gSt_gen [x0, x1, x2, x3, x4, x5, x6, x7] x8 r v (fun y hy => by simp at hy; rw [← hy]; exact h)
theorem gSt_9 {x0 x1 x2 x3 x4 x5 x6 x7 x8 x9 : Option Value} {r : List (Option Value)} {v : Value} (h : g_c1 x8 = true) : gSt 9 v (x0 :: x1 :: x2 :: x3 :: x4 :: x5 :: x6 :: x7 :: x8 :: x9 :: r) (x0 :: x1 :: x2 :: x3 :: x4 :: x5 :: x6 :: x7 :: x8 :: some v :: r) := gSt_gen [x0, x1, x2, x3, x4, x5, x6, x7, x8] x9 r v (fun y hy => by simp at hy; rw [← hy]; exact h)
theorem gSt_10 {x0 x1 x2 x3 x4 x5 x6 x7 x8 x9 x10 : Option Value} {r : List (Option Value)} {v : Value} (h : g_c1 x9 = true) : gSt 10 v (x0 :: x1 :: x2 :: x3 :: x4 :: x5 :: x6 :: x7 :: x8 :: x9 :: x10 :: r) (x0 :: x1 :: x2 :: x3 :: x4 :: x5 :: x6 :: x7 :: x8 :: x9 :: some v :: r) := gSt_gen [x0, x1, x2, x3, x4, x5, x6, x7, x8, x9] x10 r v (fun y hy => by simp at hy; rw [← hy]; exact h)
theorem gSt_11 {x0 x1 x2 x3 x4 x5 x6 x7 x8 x9 x10 x11 : Option Value} {r : List (Option Value)} {v : Value} (h : g_c1 x10 = true) : gSt 11 v (x0 :: x1 :: x2 :: x3 :: x4 :: x5 :: x6 :: x7 :: x8 :: x9 :: x10 :: x11 :: r) (x0 :: x1 :: x2 :: x3 :: x4 :: x5 :: x6 :: x7 :: x8 :: x9 :: x10 :: some v :: r) := gSt_gen [x0, x1, x2, x3, x4, x5, x6, x7, x8, x9, x10] x11 r v (fun y hy => by simp at hy; rw [← hy]; exact h)
theorem gSt_12 {x0 x1 x2 x3 x4 x5 x6 x7 x8 x9 x10 x11 x12 : Option Value} {r : List (Option Value)} {v : Value} (h : g_c1 x11 = true) : gSt 12 v (x0 :: x1 :: x2 :: x3 :: x4 :: x5 :: x6 :: x7 :: x8 :: x9 :: x10 :: x11 :: x12 :: r) (x0 :: x1 :: x2 :: x3 :: x4 :: x5 :: x6 :: x7 :: x8 :: x9 :: x10 :: x11 :: some v :: r) := gSt_gen [x0, x1, x2, x3, x4, x5, x6, x7, x8, x9, x10, x11] x12 r v (fun y hy => by simp at hy; rw [← hy]; exact h)
theorem gSt_13 {x0 x1 x2 x3 x4 x5 x6 x7 x8 x9 x10 x11 x12 x13 : Option Value} {r : List (Option Value)} {v : Value} (h : g_c1 x12 = true) : gSt 13 v (x0 :: x1 :: x2 :: x3 :: x4 :: x5 :: x6 :: x7 :: x8 :: x9 :: x10 :: x11 :: x12 :: x13 :: r) (x0 :: x1 :: x2 :: x3 :: x4 :: x5 :: x6 :: x7 :: x8 :: x9 :: x10 :: x11 :: x12 :: some v :: r) := gSt_gen [x0, x1, x2, x3, x4, x5, x6, x7, x8, x9, x10, x11, x12] x13 r v (fun y hy => by simp at hy; rw [← hy]; exact h)
theorem gSt_14 {x0 x1 x2 x3 x4 x5 x6 x7 x8 x9 x10 x11 x12 x13 x14 : Option Value} {r : List (Option Value)} {v : Value} (h : g_c1 x13 = true) : gSt 14 v (x0 :: x1 :: x2 :: x3 :: x4 :: x5 :: x6 :: x7 :: x8 :: x9 :: x10 :: x11 :: x12 :: x13 :: x14 :: r) (x0 :: x1 :: x2 :: x3 :: x4 :: x5 :: x6 :: x7 :: x8 :: x9 :: x10 :: x11 :: x12 :: x13 :: some v :: r) := gSt_gen [x0, x1, x2, x3, x4, x5, x6, x7, x8, x9, x10, x11, x12, x13] x14 r v (fun y hy => by simp at hy; rw [← hy]; exact h)
theorem gSt_15 {x0 x1 x2 x3 x4 x5 x6 x7 x8 x9 x10 x11 x12 x13 x14 x15 : Option Value} {r : List (Option Value)} {v : Value} (h : g_c1 x14 = true) : gSt 15 v (x0 :: x1 :: x2 :: x3 :: x4 :: x5 :: x6 :: x7 :: x8 :: x9 :: x10 :: x11 :: x12 :: x13 :: x14 :: x15 :: r) (x0 :: x1 :: x2 :: x3 :: x4 :: x5 :: x6 :: x7 :: x8 :: x9 :: x10 :: x11 :: x12 :: x13 :: x14 :: some v :: r) := gSt_gen [x0, x1, x2, x3, x4, x5, x6, x7, x8, x9, x10, x11, x12, x13, x14] x15 r v (fun y hy => by simp at hy; rw [← hy]; exact h)
theorem gSt_16 {x0 x1 x2 x3 x4 x5 x6 x7 x8 x9 x10 x11 x12 x13 x14 x15 x16 : Option Value} {r : List (Option Value)} {v : Value} (h : g_c1 x15 = true) : gSt 16 v (x0 :: x1 :: x2 :: x3 :: x4 :: x5 :: x6 :: x7 :: x8 :: x9 :: x10 :: x11 :: x12 :: x13 :: x14 :: x15 :: x16 :: r) (x0 :: x1 :: x2 :: x3 :: x4 :: x5 :: x6 :: x7 :: x8 :: x9 :: x10 :: x11 :: x12 :: x13 :: x14 :: x15 :: some v :: r) := gSt_gen [x0, x1, x2, x3, x4, x5, x6, x7, x8, x9, x10, x11, x12, x13, x14, x15] x16 r v (fun y hy => by simp at hy; rw [← hy]; exact h)
theorem gSt_17 {x0 x1 x2 x3 x4 x5 x6 x7 x8 x9 x10 x11 x12 x13 x14 x15 x16 x17 : Option Value} {r : List (Option Value)} {v : Value} (h : g_c1 x16 = true) : gSt 17 v (x0 :: x1 :: x2 :: x3 :: x4 :: x5 :: x6 :: x7 :: x8 :: x9 :: x10 :: x11 :: x12 :: x13 :: x14 :: x15 :: x16 :: x17 :: r) (x0 :: x1 :: x2 :: x3 :: x4 :: x5 :: x6 :: x7 :: x8 :: x9 :: x10 :: x11 :: x12 :: x13 :: x14 :: x15 :: x16 :: some v :: r) := gSt_gen [x0, x1, x2, x3, x4, x5, x6, x7, x8, x9, x10, x11, x12, x13, x14, x15, x16] x17 r v (fun y hy => by simp at hy; rw [← hy]; exact h)
theorem gSt2_0 {x0 x1 : Option Value} {r : List (Option Value)} {v : Value} : gSt2 0 v (x0 :: x1 :: r) (some v :: none :: r) := gSt2_gen [] x0 x1 r v (fun y hy => by simp at hy)
theorem gSt2_1 {x0 x1 x2 : Option Value} {r : List (Option Value)} {v : Value} (h : g_c1 x0 = true) : gSt2 1 v (x0 :: x1 :: x2 :: r) (x0 :: some v :: none :: r) := gSt2_gen [x0] x1 x2 r v (fun y hy => by simp at hy; rw [← hy]; exact h)
theorem gSt2_2 {x0 x1 x2 x3 : Option Value} {r : List (Option Value)} {v : Value} (h : g_c1 x1 = true) : gSt2 2 v (x0 :: x1 :: x2 :: x3 :: r) (x0 :: x1 :: some v :: none :: r) := gSt2_gen [x0, x1] x2 x3 r v (fun y hy => by simp at hy; rw [← hy]; exact h)
theorem gSt2_3 {x0 x1 x2 x3 x4 : Option Value} {r : List (Option Value)} {v : Value} (h : g_c1 x2 = true) : gSt2 3 v (x0 :: x1 :: x2 :: x3 :: x4 :: r) (x0 :: x1 :: x2 :: some v :: none :: r) := gSt2_gen [x0, x1, x2] x3 x4 r v (fun y hy => by simp at hy; rw [← hy]; exact h)
theorem gSt2_4 {x0 x1 x2 x3 x4 x5 : Option Value} {r : List (Option Value)} {v : Value} (h : g_c1 x3 = true) : gSt2 4 v (x0 :: x1 :: x2 :: x3 :: x4 :: x5 :: r) (x0 :: x1 :: x2 :: x3 :: some v :: none :: r) := gSt2_gen [x0, x1, x2, x3] x4 x5 r v (fun y hy => by simp at hy; rw [← hy]; exact h)
theorem gSt2_5 {x0 x1 x2 x3 x4 x5 x6 : Option Value} {r : List (Option Value)} {v : Value} (h : g_c1 x4 = true) : gSt2 5 v (x0 :: x1 :: x2 :: x3 :: x4 :: x5 :: x6 :: r) (x0 :: x1 :: x2 :: x3 :: x4 :: some v :: none :: r) := gSt2_gen [x0, x1, x2, x3, x4] x5 x6 r v (fun y hy => by simp at hy; rw [← hy]; exact h)
theorem gSt2_6 {x0 x1 x2 x3 x4 x5 x6 x7 : Option Value} {r : List (Option Value)} {v : Value} (h : g_c1 x5 = true) : gSt2 6 v (x0 :: x1 :: x2 :: x3 :: x4 :: x5 :: x6 :: x7 :: r) (x0 :: x1 :: x2 :: x3 :: x4 :: x5 :: some v :: none :: r) := gSt2_gen [x0, x1, x2, x3, x4, x5] x6 x7 r v (fun y hy => by simp at hy; rw [← hy]; exact h)
theorem gSt2_7 {x0 x1 x2 x3 x4 x5 x6 x7 x8 : Option Value} {r : List (Option Value)} {v : Value} (h : g_c1 x6 = true) : gSt2 7 v (x0 :: x1 :: x2 :: x3 :: x4 :: x5 :: x6 :: x7 :: x8 :: r) (x0 :: x1 :: x2 :: x3 :: x4 :: x5 :: x6 :: some v :: none :: r) := gSt2_gen [x0, x1, x2, x3, x4, x5, x6] x7 x8 r v (fun y hy => by simp at hy; rw [← hy]; exact h)
theorem gSt2_8 {x0 x1 x2 x3 x4 x5 x6 x7 x8 x9 : Option Value} {r : List (Option Value)} {v : Value} (h : g_c1 x7 = true) : gSt2 8 v (x0 :: x1 :: x2 :: x3 :: x4 :: x5 :: x6 :: x7 :: x8 :: x9 :: r) (x0 :: x1 :: x2 :: x3 :: x4 :: x5 :: x6 :: x7 :: some v :: none :: r) := gSt2_gen [x0, x1, x2, x3, x4, x5, x6, x7] x8 x9 r v (fun y hy => by simp at hy; rw [← hy]; exact h)
theorem gSt2_9 {x0 x1 x2 x3 x4 x5 x6 x7 x8 x9 x10 : Option Value} {r : List (Option Value)} {v : Value} (h : g_c1 x8 = true) : gSt2 9 v (x0 :: x1 :: x2 :: x3 :: x4 :: x5 :: x6 :: x7 :: x8 :: x9 :: x10 :: r) (x0 :: x1 :: x2 :: x3 :: x4 :: x5 :: x6 :: x7 :: x8 :: some v :: none :: r) := gSt2_gen [x0, x1, x2, x3, x4, x5, x6, x7, x8] x9 x10 r v (fun y hy => by simp at hy; rw [← hy]; exact h)
theorem gSt2_10 {x0 x1 x2 x3 x4 x5 x6 x7 x8 x9 x10 x11 : Option Value} {r : List (Option Value)} {v : Value} (h : g_c1 x9 = true) : gSt2 10 v (x0 :: x1 :: x2 :: x3 :: x4 :: x5 :: x6 :: x7 :: x8 :: x9 :: x10 :: x11 :: r) (x0 :: x1 :: x2 :: x3 :: x4 :: x5 :: x6 :: x7 :: x8 :: x9 :: some v :: none :: r) := gSt2_gen [x0, x1, x2, x3, x4, x5, x6, x7, x8, x9] x10 x11 r v (fun y hy => by simp at hy; rw [← hy]; exact h)
theorem gSt2_11 {x0 x1 x2 x3 x4 x5 x6 x7 x8 x9 x10 x11 x12 : Option Value} {r : List (Option Value)} {v : Value} (h : g_c1 x10 = true) : gSt2 11 v (x0 :: x1 :: x2 :: x3 :: x4 :: x5 :: x6 :: x7 :: x8 :: x9 :: x10 :: x11 :: x12 :: r) (x0 :: x1 :: x2 :: x3 :: x4 :: x5 :: x6 :: x7 :: x8 :: x9 :: x10 :: some v :: none :: r) := gSt2_gen [x0, x1, x2, x3, x4, x5, x6, x7, x8, x9, x10] x11 x12 r v (fun y hy => by simp at hy; rw [← hy]; exact h)
theorem gSt2_12 {x0 x1 x2 x3 x4 x5 x6 x7 x8 x9 x10 x11 x12 x13 : Option Value} {r : List (Option Value)} {v : Value} (h : g_c1 x11 = true) : gSt2 12 v (x0 :: x1 :: x2 :: x3 :: x4 :: x5 :: x6 :: x7 :: x8 :: x9 :: x10 :: x11 :: x12 :: x13 :: r) (x0 :: x1 :: x2 :: x3 :: x4 :: x5 :: x6 :: x7 :: x8 :: x9 :: x10 :: x11 :: some v :: none :: r) := gSt2_gen [x0, x1, x2, x3, x4, x5, x6, x7, x8, x9, x10, x11] x12 x13 r v (fun y hy => by simp at hy; rw [← hy]; exact h)
theorem gSt2_13 {x0 x1 x2 x3 x4 x5 x6 x7 x8 x9 x10 x11 x12 x13 x14 : Option Value} {r : List (Option Value)} {v : Value} (h : g_c1 x12 = true) : gSt2 13 v (x0 :: x1 :: x2 :: x3 :: x4 :: x5 :: x6 :: x7 :: x8 :: x9 :: x10 :: x11 :: x12 :: x13 :: x14 :: r) (x0 :: x1 :: x2 :: x3 :: x4 :: x5 :: x6 :: x7 :: x8 :: x9 :: x10 :: x11 :: x12 :: some v :: none :: r) := gSt2_gen [x0, x1, x2, x3, x4, x5, x6, x7, x8, x9, x10, x11, x12] x13 x14 r v (fun y hy => by simp at hy; rw [← hy]; exact h)
theorem gSt2_14 {x0 x1 x2 x3 x4 x5 x6 x7 x8 x9 x10 x11 x12 x13 x14 x15 : Option Value} {r : List (Option Value)} {v : Value} (h : g_c1 x13 = true) : gSt2 14 v (x0 :: x1 :: x2 :: x3 :: x4 :: x5 :: x6 :: x7 :: x8 :: x9 :: x10 :: x11 :: x12 :: x13 :: x14 :: x15 :: r) (x0 :: x1 :: x2 :: x3 :: x4 :: x5 :: x6 :: x7 :: x8 :: x9 :: x10 :: x11 :: x12 :: x13 :: some v :: none :: r) := gSt2_gen [x0, x1, x2, x3, x4, x5, x6, x7, x8, x9, x10, x11, x12, x13] x14 x15 r v (fun y hy => by simp at hy; rw [← hy]; exact h)
theorem gSt2_15 {x0 x1 x2 x3 x4 x5 x6 x7 x8 x9 x10 x11 x12 x13 x14 x15 x16 : Option Value} {r : List (Option Value)} {v : Value} (h : g_c1 x14 = true) : gSt2 15 v (x0 :: x1 :: x2 :: x3 :: x4 :: x5 :: x6 :: x7 :: x8 :: x9 :: x10 :: x11 :: x12 :: x13 :: x14 :: x15 :: x16 :: r) (x0 :: x1 :: x2 :: x3 :: x4 :: x5 :: x6 :: x7 :: x8 :: x9 :: x10 :: x11 :: x12 :: x13 :: x14 :: some v :: none :: r) := gSt2_gen [x0, x1, x2, x3, x4, x5, x6, x7, x8, x9, x10, x11, x12, x13, x14] x15 x16 r v (fun y hy => by simp at hy; rw [← hy]; exact h)
theorem g_iconst (G : gOK Γ own cc n mc ms) {v : Int32} {i : Int} (d : decode cc pc = .ok (.iconst i, 1)) (hv : Int32.ofInt i = v) (kk : gW Γ (pc + 1) lo (.int v :: st) S k sl) : gW Γ pc lo (st) S k sl := by
  obtain ⟨p, l, e1, R, s, m, args, below, meth, c, Q, A, D, cT, d0⟩ := Γ
  obtain ⟨hx, hb, hown, hts, hK, hA, hV, hRf, hRl, hRc, hRs⟩ := G
  intro H locs ls hR hS hL
  exact lv_iconst hx hb d hv (kk H locs ls hR hS hL)
theorem g_bipush (G : gOK Γ own cc n mc ms) {v : Int32} {i : Int} (d : decode cc pc = .ok (.bipush i, 2)) (hv : (Int8.ofInt i).toInt32 = v) (kk : gW Γ (pc + 2) lo (.int v :: st) S k sl) : gW Γ pc lo (st) S k sl := by
  obtain ⟨p, l, e1, R, s, m, args, below, meth, c, Q, A, D, cT, d0⟩ := Γ
  obtain ⟨hx, hb, hown, hts, hK, hA, hV, hRf, hRl, hRc, hRs⟩ := G
  intro H locs ls hR hS hL
  exact lv_bipush hx hb d hv (kk H locs ls hR hS hL)
theorem g_sipush (G : gOK Γ own cc n mc ms) {v : Int32} {i : Int} (d : decode cc pc = .ok (.sipush i, 3)) (hv : (Int16.ofInt i).toInt32 = v) (kk : gW Γ (pc + 3) lo (.int v :: st) S k sl) : gW Γ pc lo (st) S k sl := by
  obtain ⟨p, l, e1, R, s, m, args, below, meth, c, Q, A, D, cT, d0⟩ := Γ
  obtain ⟨hx, hb, hown, hts, hK, hA, hV, hRf, hRl, hRc, hRs⟩ := G
  intro H locs ls hR hS hL
  exact lv_sipush hx hb d hv (kk H locs ls hR hS hL)
theorem g_lconst (G : gOK Γ own cc n mc ms) {v : Int64} {i : Fin 2} (d : decode cc pc = .ok (.lconst i, 1)) (hv : Int64.ofNat (i : Nat) = v) (kk : gW Γ (pc + 1) lo (.long v :: st) S k sl) : gW Γ pc lo (st) S k sl := by
  obtain ⟨p, l, e1, R, s, m, args, below, meth, c, Q, A, D, cT, d0⟩ := Γ
  obtain ⟨hx, hb, hown, hts, hK, hA, hV, hRf, hRl, hRc, hRs⟩ := G
  intro H locs ls hR hS hL
  exact lv_lconst hx hb d hv (kk H locs ls hR hS hL)
theorem g_null (G : gOK Γ own cc n mc ms) (d : decode cc pc = .ok (.aconst_null, 1)) (kk : gW Γ (pc + 1) lo (.null :: st) S k sl) : gW Γ pc lo (st) S k sl := by
  obtain ⟨p, l, e1, R, s, m, args, below, meth, c, Q, A, D, cT, d0⟩ := Γ
  obtain ⟨hx, hb, hown, hts, hK, hA, hV, hRf, hRl, hRc, hRs⟩ := G
  intro H locs ls hR hS hL
  exact lv_null hx hb d (kk H locs ls hR hS hL)
theorem g_ldc (G : gOK Γ own cc n mc ms) {index : Nat} {v : Int32} (hw : Cond.constant own index v ∈ gWords) (d : decode cc pc = .ok (.ldc index, 2)) (kk : gW Γ (pc + 2) lo (.int v :: st) S k sl) : gW Γ pc lo (st) S k sl := by
  obtain ⟨p, l, e1, R, s, m, args, below, meth, c, Q, A, D, cT, d0⟩ := Γ
  obtain ⟨hx, hb, hown, hts, hK, hA, hV, hRf, hRl, hRc, hRs⟩ := G
  intro H locs ls hR hS hL
  exact lv_ldc hx hb hown (hts _ hw) d (kk H locs ls hR hS hL)
theorem g_ldc2 (G : gOK Γ own cc n mc ms) {index : Nat} {v : Int64} (hw : Cond.constantLong own index v ∈ gWords) (d : decode cc pc = .ok (.ldc2_w index, 3)) (kk : gW Γ (pc + 3) lo (.long v :: st) S k sl) : gW Γ pc lo (st) S k sl := by
  obtain ⟨p, l, e1, R, s, m, args, below, meth, c, Q, A, D, cT, d0⟩ := Γ
  obtain ⟨hx, hb, hown, hts, hK, hA, hV, hRf, hRl, hRc, hRs⟩ := G
  intro H locs ls hR hS hL
  exact lv_ldc2 hx hb hown (hts _ hw) d (kk H locs ls hR hS hL)
theorem g_iload_n (G : gOK Γ own cc n mc ms) {i : Fin 4} {x : Int32} (d : decode cc pc = .ok (.iload_n i, 1)) (h : lo[(i : Nat)]? = some (some (.int x))) (kk : gW Γ (pc + 1) lo (.int x :: st) S k sl) : gW Γ pc lo (st) S k sl := by
  obtain ⟨p, l, e1, R, s, m, args, below, meth, c, Q, A, D, cT, d0⟩ := Γ
  obtain ⟨hx, hb, hown, hts, hK, hA, hV, hRf, hRl, hRc, hRs⟩ := G
  intro H locs ls hR hS hL
  exact lv_iload_n hx hb d rfl (hL.2.2.2 _ _ h) (kk H locs ls hR hS hL)
theorem g_iload (G : gOK Γ own cc n mc ms) {i : Nat} {x : Int32} (d : decode cc pc = .ok (.iload i, 2)) (h : lo[i]? = some (some (.int x))) (kk : gW Γ (pc + 2) lo (.int x :: st) S k sl) : gW Γ pc lo (st) S k sl := by
  obtain ⟨p, l, e1, R, s, m, args, below, meth, c, Q, A, D, cT, d0⟩ := Γ
  obtain ⟨hx, hb, hown, hts, hK, hA, hV, hRf, hRl, hRc, hRs⟩ := G
  intro H locs ls hR hS hL
  exact lv_iload hx hb d (hL.2.2.2 _ _ h) (kk H locs ls hR hS hL)
theorem g_lload_n (G : gOK Γ own cc n mc ms) {i : Fin 4} {x : Int64} (d : decode cc pc = .ok (.lload_n i, 1)) (h : lo[(i : Nat)]? = some (some (.long x))) (kk : gW Γ (pc + 1) lo (.long x :: st) S k sl) : gW Γ pc lo (st) S k sl := by
  obtain ⟨p, l, e1, R, s, m, args, below, meth, c, Q, A, D, cT, d0⟩ := Γ
  obtain ⟨hx, hb, hown, hts, hK, hA, hV, hRf, hRl, hRc, hRs⟩ := G
  intro H locs ls hR hS hL
  exact lv_lload_n hx hb d rfl (hL.2.2.2 _ _ h) (kk H locs ls hR hS hL)
theorem g_lload (G : gOK Γ own cc n mc ms) {i : Nat} {x : Int64} (d : decode cc pc = .ok (.lload i, 2)) (h : lo[i]? = some (some (.long x))) (kk : gW Γ (pc + 2) lo (.long x :: st) S k sl) : gW Γ pc lo (st) S k sl := by
  obtain ⟨p, l, e1, R, s, m, args, below, meth, c, Q, A, D, cT, d0⟩ := Γ
  obtain ⟨hx, hb, hown, hts, hK, hA, hV, hRf, hRl, hRc, hRs⟩ := G
  intro H locs ls hR hS hL
  exact lv_lload hx hb d (hL.2.2.2 _ _ h) (kk H locs ls hR hS hL)
theorem g_dload_n (G : gOK Γ own cc n mc ms) {i : Fin 4} {x : UInt64} (d : decode cc pc = .ok (.dload_n i, 1)) (h : lo[(i : Nat)]? = some (some (.double x))) (kk : gW Γ (pc + 1) lo (.double x :: st) S k sl) : gW Γ pc lo (st) S k sl := by
  obtain ⟨p, l, e1, R, s, m, args, below, meth, c, Q, A, D, cT, d0⟩ := Γ
  obtain ⟨hx, hb, hown, hts, hK, hA, hV, hRf, hRl, hRc, hRs⟩ := G
  intro H locs ls hR hS hL
  exact lv_dload_n hx hb d rfl (hL.2.2.2 _ _ h) (kk H locs ls hR hS hL)
theorem g_dload (G : gOK Γ own cc n mc ms) {i : Nat} {x : UInt64} (d : decode cc pc = .ok (.dload i, 2)) (h : lo[i]? = some (some (.double x))) (kk : gW Γ (pc + 2) lo (.double x :: st) S k sl) : gW Γ pc lo (st) S k sl := by
  obtain ⟨p, l, e1, R, s, m, args, below, meth, c, Q, A, D, cT, d0⟩ := Γ
  obtain ⟨hx, hb, hown, hts, hK, hA, hV, hRf, hRl, hRc, hRs⟩ := G
  intro H locs ls hR hS hL
  exact lv_dload hx hb d (hL.2.2.2 _ _ h) (kk H locs ls hR hS hL)
theorem g_aload_n (G : gOK Γ own cc n mc ms) {i : Fin 4} {x : Nat} (d : decode cc pc = .ok (.aload_n i, 1)) (h : lo[(i : Nat)]? = some (some (.ref x))) (kk : gW Γ (pc + 1) lo (.ref x :: st) S k sl) : gW Γ pc lo (st) S k sl := by
  obtain ⟨p, l, e1, R, s, m, args, below, meth, c, Q, A, D, cT, d0⟩ := Γ
  obtain ⟨hx, hb, hown, hts, hK, hA, hV, hRf, hRl, hRc, hRs⟩ := G
  intro H locs ls hR hS hL
  exact lv_aload_n hx hb d rfl (hL.2.2.2 _ _ h) (kk H locs ls hR hS hL)
theorem g_aload (G : gOK Γ own cc n mc ms) {i : Nat} {x : Nat} (d : decode cc pc = .ok (.aload i, 2)) (h : lo[i]? = some (some (.ref x))) (kk : gW Γ (pc + 2) lo (.ref x :: st) S k sl) : gW Γ pc lo (st) S k sl := by
  obtain ⟨p, l, e1, R, s, m, args, below, meth, c, Q, A, D, cT, d0⟩ := Γ
  obtain ⟨hx, hb, hown, hts, hK, hA, hV, hRf, hRl, hRc, hRs⟩ := G
  intro H locs ls hR hS hL
  exact lv_aload hx hb d (hL.2.2.2 _ _ h) (kk H locs ls hR hS hL)
theorem g_aload_nN (G : gOK Γ own cc n mc ms) {i : Fin 4} (d : decode cc pc = .ok (.aload_n i, 1)) (h : lo[(i : Nat)]? = some (some .null)) (kk : gW Γ (pc + 1) lo (.null :: st) S k sl) : gW Γ pc lo (st) S k sl := by
  obtain ⟨p, l, e1, R, s, m, args, below, meth, c, Q, A, D, cT, d0⟩ := Γ
  obtain ⟨hx, hb, hown, hts, hK, hA, hV, hRf, hRl, hRc, hRs⟩ := G
  intro H locs ls hR hS hL
  exact lv_aload_nN hx hb d rfl (hL.2.2.2 _ _ h) (kk H locs ls hR hS hL)
theorem g_aloadN (G : gOK Γ own cc n mc ms) {i : Nat} (d : decode cc pc = .ok (.aload i, 2)) (h : lo[i]? = some (some .null)) (kk : gW Γ (pc + 2) lo (.null :: st) S k sl) : gW Γ pc lo (st) S k sl := by
  obtain ⟨p, l, e1, R, s, m, args, below, meth, c, Q, A, D, cT, d0⟩ := Γ
  obtain ⟨hx, hb, hown, hts, hK, hA, hV, hRf, hRl, hRc, hRs⟩ := G
  intro H locs ls hR hS hL
  exact lv_aloadN hx hb d (hL.2.2.2 _ _ h) (kk H locs ls hR hS hL)
theorem g_aload_nQ (G : gOK Γ own cc n mc ms) {i : Fin 4} {o : Option Nat} (d : decode cc pc = .ok (.aload_n i, 1)) (h : lo[(i : Nat)]? = some (some (va_rf o))) (kk : gW Γ (pc + 1) lo (va_rf o :: st) S k sl) : gW Γ pc lo st S k sl := by
  cases o with
  | none => exact g_aload_nN G d h kk
  | some x => exact g_aload_n G d h kk
theorem g_aloadQ (G : gOK Γ own cc n mc ms) {i : Nat} {o : Option Nat} (d : decode cc pc = .ok (.aload i, 2)) (h : lo[i]? = some (some (va_rf o))) (kk : gW Γ (pc + 2) lo (va_rf o :: st) S k sl) : gW Γ pc lo st S k sl := by
  cases o with
  | none => exact g_aloadN G d h kk
  | some x => exact g_aload G d h kk
theorem g_istore_n (G : gOK Γ own cc n mc ms) {i : Fin 4} {x : Int32} (d : decode cc pc = .ok (.istore_n i, 1)) (h : gSt (i : Nat) (.int x) lo lo') (kk : gW Γ (pc + 1) lo' (st) S k sl) : gW Γ pc lo (.int x :: st) S k sl := by
  obtain ⟨p, l, e1, R, s, m, args, below, meth, c, Q, A, D, cT, d0⟩ := Γ
  obtain ⟨hx, hb, hown, hts, hK, hA, hV, hRf, hRl, hRc, hRs⟩ := G
  intro H locs ls hR hS hL
  exact lv_istore_n hx hb d rfl hL.has (by rw [← hL.2.2.1]; exact h.lt) rfl (fun ls' h' => kk H locs ls' hR hS (hL.st1 h' h.1 h.2.1 h.2.2.1 h.2.2.2))
theorem g_istore (G : gOK Γ own cc n mc ms) {i : Nat} {x : Int32} (d : decode cc pc = .ok (.istore i, 2)) (h : gSt i (.int x) lo lo') (kk : gW Γ (pc + 2) lo' (st) S k sl) : gW Γ pc lo (.int x :: st) S k sl := by
  obtain ⟨p, l, e1, R, s, m, args, below, meth, c, Q, A, D, cT, d0⟩ := Γ
  obtain ⟨hx, hb, hown, hts, hK, hA, hV, hRf, hRl, hRc, hRs⟩ := G
  intro H locs ls hR hS hL
  exact lv_istore hx hb d hL.has (by rw [← hL.2.2.1]; exact h.lt) rfl (fun ls' h' => kk H locs ls' hR hS (hL.st1 h' h.1 h.2.1 h.2.2.1 h.2.2.2))
theorem g_astore_n (G : gOK Γ own cc n mc ms) {i : Fin 4} {x : Nat} (d : decode cc pc = .ok (.astore_n i, 1)) (h : gSt (i : Nat) (.ref x) lo lo') (kk : gW Γ (pc + 1) lo' (st) S k sl) : gW Γ pc lo (.ref x :: st) S k sl := by
  obtain ⟨p, l, e1, R, s, m, args, below, meth, c, Q, A, D, cT, d0⟩ := Γ
  obtain ⟨hx, hb, hown, hts, hK, hA, hV, hRf, hRl, hRc, hRs⟩ := G
  intro H locs ls hR hS hL
  exact lv_astore_n hx hb d rfl hL.has (by rw [← hL.2.2.1]; exact h.lt) rfl (fun ls' h' => kk H locs ls' hR hS (hL.st1 h' h.1 h.2.1 h.2.2.1 h.2.2.2))
theorem g_astore (G : gOK Γ own cc n mc ms) {i : Nat} {x : Nat} (d : decode cc pc = .ok (.astore i, 2)) (h : gSt i (.ref x) lo lo') (kk : gW Γ (pc + 2) lo' (st) S k sl) : gW Γ pc lo (.ref x :: st) S k sl := by
  obtain ⟨p, l, e1, R, s, m, args, below, meth, c, Q, A, D, cT, d0⟩ := Γ
  obtain ⟨hx, hb, hown, hts, hK, hA, hV, hRf, hRl, hRc, hRs⟩ := G
  intro H locs ls hR hS hL
  exact lv_astore hx hb d hL.has (by rw [← hL.2.2.1]; exact h.lt) rfl (fun ls' h' => kk H locs ls' hR hS (hL.st1 h' h.1 h.2.1 h.2.2.1 h.2.2.2))
theorem g_astore_nN (G : gOK Γ own cc n mc ms) {i : Fin 4} (d : decode cc pc = .ok (.astore_n i, 1)) (h : gSt (i : Nat) .null lo lo') (kk : gW Γ (pc + 1) lo' (st) S k sl) : gW Γ pc lo (.null :: st) S k sl := by
  obtain ⟨p, l, e1, R, s, m, args, below, meth, c, Q, A, D, cT, d0⟩ := Γ
  obtain ⟨hx, hb, hown, hts, hK, hA, hV, hRf, hRl, hRc, hRs⟩ := G
  intro H locs ls hR hS hL
  exact lv_astore_nN hx hb d rfl hL.has (by rw [← hL.2.2.1]; exact h.lt) rfl (fun ls' h' => kk H locs ls' hR hS (hL.st1 h' h.1 h.2.1 h.2.2.1 h.2.2.2))
theorem g_astore_nQ (G : gOK Γ own cc n mc ms) {i : Fin 4} {o : Option Nat} (d : decode cc pc = .ok (.astore_n i, 1)) (h : gSt (i : Nat) (va_rf o) lo lo') (kk : gW Γ (pc + 1) lo' st S k sl) : gW Γ pc lo (va_rf o :: st) S k sl := by
  cases o with
  | none => exact g_astore_nN G d h kk
  | some x => exact g_astore_n G d h kk
theorem g_astoreN (G : gOK Γ own cc n mc ms) {i : Nat} (d : decode cc pc = .ok (.astore i, 2)) (h : gSt i .null lo lo') (kk : gW Γ (pc + 2) lo' (st) S k sl) : gW Γ pc lo (.null :: st) S k sl := by
  obtain ⟨p, l, e1, R, s, m, args, below, meth, c, Q, A, D, cT, d0⟩ := Γ
  obtain ⟨hx, hb, hown, hts, hK, hA, hV, hRf, hRl, hRc, hRs⟩ := G
  intro H locs ls hR hS hL
  exact lv_astoreN hx hb d hL.has (by rw [← hL.2.2.1]; exact h.lt) rfl (fun ls' h' => kk H locs ls' hR hS (hL.st1 h' h.1 h.2.1 h.2.2.1 h.2.2.2))
theorem g_astoreQ (G : gOK Γ own cc n mc ms) {i : Nat} {o : Option Nat} (d : decode cc pc = .ok (.astore i, 2)) (h : gSt i (va_rf o) lo lo') (kk : gW Γ (pc + 2) lo' st S k sl) : gW Γ pc lo (va_rf o :: st) S k sl := by
  cases o with
  | none => exact g_astoreN G d h kk
  | some x => exact g_astore G d h kk
theorem g_lstore_n (G : gOK Γ own cc n mc ms) {i : Fin 4} {x : Int64} (d : decode cc pc = .ok (.lstore_n i, 1)) (h : gSt2 (i : Nat) (.long x) lo lo') (kk : gW Γ (pc + 1) lo' (st) S k sl) : gW Γ pc lo (.long x :: st) S k sl := by
  obtain ⟨p, l, e1, R, s, m, args, below, meth, c, Q, A, D, cT, d0⟩ := Γ
  obtain ⟨hx, hb, hown, hts, hK, hA, hV, hRf, hRl, hRc, hRs⟩ := G
  intro H locs ls hR hS hL
  exact lv_lstore_n hx hb d rfl hL.has (by rw [← hL.2.2.1]; exact h.lt) rfl (fun ls' h' => kk H locs ls' hR hS (hL.st2 h' h.1 h.2.1 h.2.2.1 h.2.2.2.1 h.2.2.2.2))
theorem g_lstore (G : gOK Γ own cc n mc ms) {i : Nat} {x : Int64} (d : decode cc pc = .ok (.lstore i, 2)) (h : gSt2 i (.long x) lo lo') (kk : gW Γ (pc + 2) lo' (st) S k sl) : gW Γ pc lo (.long x :: st) S k sl := by
  obtain ⟨p, l, e1, R, s, m, args, below, meth, c, Q, A, D, cT, d0⟩ := Γ
  obtain ⟨hx, hb, hown, hts, hK, hA, hV, hRf, hRl, hRc, hRs⟩ := G
  intro H locs ls hR hS hL
  exact lv_lstore hx hb d hL.has (by rw [← hL.2.2.1]; exact h.lt) rfl (fun ls' h' => kk H locs ls' hR hS (hL.st2 h' h.1 h.2.1 h.2.2.1 h.2.2.2.1 h.2.2.2.2))
theorem g_dstore_n (G : gOK Γ own cc n mc ms) {i : Fin 4} {x : UInt64} (d : decode cc pc = .ok (.dstore_n i, 1)) (h : gSt2 (i : Nat) (.double x) lo lo') (kk : gW Γ (pc + 1) lo' (st) S k sl) : gW Γ pc lo (.double x :: st) S k sl := by
  obtain ⟨p, l, e1, R, s, m, args, below, meth, c, Q, A, D, cT, d0⟩ := Γ
  obtain ⟨hx, hb, hown, hts, hK, hA, hV, hRf, hRl, hRc, hRs⟩ := G
  intro H locs ls hR hS hL
  exact lv_dstore_n hx hb d rfl hL.has (by rw [← hL.2.2.1]; exact h.lt) rfl (fun ls' h' => kk H locs ls' hR hS (hL.st2 h' h.1 h.2.1 h.2.2.1 h.2.2.2.1 h.2.2.2.2))
theorem g_dstore (G : gOK Γ own cc n mc ms) {i : Nat} {x : UInt64} (d : decode cc pc = .ok (.dstore i, 2)) (h : gSt2 i (.double x) lo lo') (kk : gW Γ (pc + 2) lo' (st) S k sl) : gW Γ pc lo (.double x :: st) S k sl := by
  obtain ⟨p, l, e1, R, s, m, args, below, meth, c, Q, A, D, cT, d0⟩ := Γ
  obtain ⟨hx, hb, hown, hts, hK, hA, hV, hRf, hRl, hRc, hRs⟩ := G
  intro H locs ls hR hS hL
  exact lv_dstore hx hb d hL.has (by rw [← hL.2.2.1]; exact h.lt) rfl (fun ls' h' => kk H locs ls' hR hS (hL.st2 h' h.1 h.2.1 h.2.2.1 h.2.2.2.1 h.2.2.2.2))
theorem g_iinc (G : gOK Γ own cc n mc ms) {i : Nat} {j : Int} {x v : Int32} (d : decode cc pc = .ok (.iinc i j, 3)) (hi : lo[i]? = some (some (.int x))) (hv : x + Int32.ofInt j = v) (h : gSt i (.int v) lo lo') (kk : gW Γ (pc + 3) lo' st S k sl) : gW Γ pc lo st S k sl := by
  obtain ⟨p, l, e1, R, s, m, args, below, meth, c, Q, A, D, cT, d0⟩ := Γ
  obtain ⟨hx, hb, hown, hts, hK, hA, hV, hRf, hRl, hRc, hRs⟩ := G
  intro H locs ls hR hS hL
  obtain ⟨q, hq⟩ := List.getElem?_of_mem (gPrs_mem.mpr (show lo[((i, .int x) : Nat × Value).1]? = some (some ((i, .int x) : Nat × Value).2) from hi))
  exact lv_iinc hx hb d hL.has hq hv (by rw [← hL.2.2.1]; exact h.lt) rfl (fun ls' h' => kk H locs ls' hR hS (hL.st1 h' h.1 h.2.1 h.2.2.1 h.2.2.2))
theorem g_iadd (G : gOK Γ own cc n mc ms) {x y z : Int32} (d : decode cc pc = .ok (.iadd, 1)) (hz : x + y = z) (kk : gW Γ (pc + 1) lo (.int z :: st) S k sl) : gW Γ pc lo (.int y :: .int x :: st) S k sl := by
  obtain ⟨p, l, e1, R, s, m, args, below, meth, c, Q, A, D, cT, d0⟩ := Γ
  obtain ⟨hx, hb, hown, hts, hK, hA, hV, hRf, hRl, hRc, hRs⟩ := G
  intro H locs ls hR hS hL
  subst hz
  exact lv_iadd hx hb d (kk H locs ls hR hS hL)
theorem g_isub (G : gOK Γ own cc n mc ms) {x y z : Int32} (d : decode cc pc = .ok (.isub, 1)) (hz : x - y = z) (kk : gW Γ (pc + 1) lo (.int z :: st) S k sl) : gW Γ pc lo (.int y :: .int x :: st) S k sl := by
  obtain ⟨p, l, e1, R, s, m, args, below, meth, c, Q, A, D, cT, d0⟩ := Γ
  obtain ⟨hx, hb, hown, hts, hK, hA, hV, hRf, hRl, hRc, hRs⟩ := G
  intro H locs ls hR hS hL
  subst hz
  exact lv_isub hx hb d (kk H locs ls hR hS hL)
theorem g_imul (G : gOK Γ own cc n mc ms) {x y z : Int32} (d : decode cc pc = .ok (.imul, 1)) (hz : x * y = z) (kk : gW Γ (pc + 1) lo (.int z :: st) S k sl) : gW Γ pc lo (.int y :: .int x :: st) S k sl := by
  obtain ⟨p, l, e1, R, s, m, args, below, meth, c, Q, A, D, cT, d0⟩ := Γ
  obtain ⟨hx, hb, hown, hts, hK, hA, hV, hRf, hRl, hRc, hRs⟩ := G
  intro H locs ls hR hS hL
  subst hz
  exact lv_imul hx hb d (kk H locs ls hR hS hL)
theorem g_iand (G : gOK Γ own cc n mc ms) {x y z : Int32} (d : decode cc pc = .ok (.iand, 1)) (hz : x &&& y = z) (kk : gW Γ (pc + 1) lo (.int z :: st) S k sl) : gW Γ pc lo (.int y :: .int x :: st) S k sl := by
  obtain ⟨p, l, e1, R, s, m, args, below, meth, c, Q, A, D, cT, d0⟩ := Γ
  obtain ⟨hx, hb, hown, hts, hK, hA, hV, hRf, hRl, hRc, hRs⟩ := G
  intro H locs ls hR hS hL
  subst hz
  exact lv_iand hx hb d (kk H locs ls hR hS hL)
theorem g_ior (G : gOK Γ own cc n mc ms) {x y z : Int32} (d : decode cc pc = .ok (.ior, 1)) (hz : x ||| y = z) (kk : gW Γ (pc + 1) lo (.int z :: st) S k sl) : gW Γ pc lo (.int y :: .int x :: st) S k sl := by
  obtain ⟨p, l, e1, R, s, m, args, below, meth, c, Q, A, D, cT, d0⟩ := Γ
  obtain ⟨hx, hb, hown, hts, hK, hA, hV, hRf, hRl, hRc, hRs⟩ := G
  intro H locs ls hR hS hL
  subst hz
  exact lv_ior hx hb d (kk H locs ls hR hS hL)
theorem g_ixor (G : gOK Γ own cc n mc ms) {x y z : Int32} (d : decode cc pc = .ok (.ixor, 1)) (hz : x ^^^ y = z) (kk : gW Γ (pc + 1) lo (.int z :: st) S k sl) : gW Γ pc lo (.int y :: .int x :: st) S k sl := by
  obtain ⟨p, l, e1, R, s, m, args, below, meth, c, Q, A, D, cT, d0⟩ := Γ
  obtain ⟨hx, hb, hown, hts, hK, hA, hV, hRf, hRl, hRc, hRs⟩ := G
  intro H locs ls hR hS hL
  subst hz
  exact lv_ixor hx hb d (kk H locs ls hR hS hL)
theorem g_ishl (G : gOK Γ own cc n mc ms) {x y z : Int32} (d : decode cc pc = .ok (.ishl, 1)) (hz : x <<< (y &&& 31) = z) (kk : gW Γ (pc + 1) lo (.int z :: st) S k sl) : gW Γ pc lo (.int y :: .int x :: st) S k sl := by
  obtain ⟨p, l, e1, R, s, m, args, below, meth, c, Q, A, D, cT, d0⟩ := Γ
  obtain ⟨hx, hb, hown, hts, hK, hA, hV, hRf, hRl, hRc, hRs⟩ := G
  intro H locs ls hR hS hL
  subst hz
  exact lv_ishl hx hb d (kk H locs ls hR hS hL)
theorem g_ishr (G : gOK Γ own cc n mc ms) {x y z : Int32} (d : decode cc pc = .ok (.ishr, 1)) (hz : x >>> (y &&& 31) = z) (kk : gW Γ (pc + 1) lo (.int z :: st) S k sl) : gW Γ pc lo (.int y :: .int x :: st) S k sl := by
  obtain ⟨p, l, e1, R, s, m, args, below, meth, c, Q, A, D, cT, d0⟩ := Γ
  obtain ⟨hx, hb, hown, hts, hK, hA, hV, hRf, hRl, hRc, hRs⟩ := G
  intro H locs ls hR hS hL
  subst hz
  exact lv_ishr hx hb d (kk H locs ls hR hS hL)
theorem g_iushr (G : gOK Γ own cc n mc ms) {x y z : Int32} (d : decode cc pc = .ok (.iushr, 1)) (hz : (x.toUInt32 >>> (y.toUInt32 &&& Int32.toUInt32 31)).toInt32 = z) (kk : gW Γ (pc + 1) lo (.int z :: st) S k sl) : gW Γ pc lo (.int y :: .int x :: st) S k sl := by
  obtain ⟨p, l, e1, R, s, m, args, below, meth, c, Q, A, D, cT, d0⟩ := Γ
  obtain ⟨hx, hb, hown, hts, hK, hA, hV, hRf, hRl, hRc, hRs⟩ := G
  intro H locs ls hR hS hL
  exact lv_iushr hx hb d hz (kk H locs ls hR hS hL)
theorem g_idiv (G : gOK Γ own cc n mc ms) {x y z : Int32} (d : decode cc pc = .ok (.idiv, 1)) (h0 : ¬ y = 0) (hz : x / y = z) (kk : gW Γ (pc + 1) lo (.int z :: st) S k sl) : gW Γ pc lo (.int y :: .int x :: st) S k sl := by
  obtain ⟨p, l, e1, R, s, m, args, below, meth, c, Q, A, D, cT, d0⟩ := Γ
  obtain ⟨hx, hb, hown, hts, hK, hA, hV, hRf, hRl, hRc, hRs⟩ := G
  intro H locs ls hR hS hL
  subst hz
  exact lv_idiv hx hb d h0 (kk H locs ls hR hS hL)
theorem g_irem (G : gOK Γ own cc n mc ms) {x y z : Int32} (d : decode cc pc = .ok (.irem, 1)) (h0 : ¬ y = 0) (hz : x - x / y * y = z) (kk : gW Γ (pc + 1) lo (.int z :: st) S k sl) : gW Γ pc lo (.int y :: .int x :: st) S k sl := by
  obtain ⟨p, l, e1, R, s, m, args, below, meth, c, Q, A, D, cT, d0⟩ := Γ
  obtain ⟨hx, hb, hown, hts, hK, hA, hV, hRf, hRl, hRc, hRs⟩ := G
  intro H locs ls hR hS hL
  subst hz
  exact lv_irem hx hb d h0 (kk H locs ls hR hS hL)
theorem g_ladd (G : gOK Γ own cc n mc ms) {x y z : Int64} (d : decode cc pc = .ok (.ladd, 1)) (hz : x + y = z) (kk : gW Γ (pc + 1) lo (.long z :: st) S k sl) : gW Γ pc lo (.long y :: .long x :: st) S k sl := by
  obtain ⟨p, l, e1, R, s, m, args, below, meth, c, Q, A, D, cT, d0⟩ := Γ
  obtain ⟨hx, hb, hown, hts, hK, hA, hV, hRf, hRl, hRc, hRs⟩ := G
  intro H locs ls hR hS hL
  subst hz
  exact lv_ladd hx hb d (kk H locs ls hR hS hL)
theorem g_lmul (G : gOK Γ own cc n mc ms) {x y z : Int64} (d : decode cc pc = .ok (.lmul, 1)) (hz : x * y = z) (kk : gW Γ (pc + 1) lo (.long z :: st) S k sl) : gW Γ pc lo (.long y :: .long x :: st) S k sl := by
  obtain ⟨p, l, e1, R, s, m, args, below, meth, c, Q, A, D, cT, d0⟩ := Γ
  obtain ⟨hx, hb, hown, hts, hK, hA, hV, hRf, hRl, hRc, hRs⟩ := G
  intro H locs ls hR hS hL
  subst hz
  exact lv_lmul hx hb d (kk H locs ls hR hS hL)
theorem g_ineg (G : gOK Γ own cc n mc ms) {x z : Int32} (d : decode cc pc = .ok (.ineg, 1)) (hz : -x = z) (kk : gW Γ (pc + 1) lo (.int z :: st) S k sl) : gW Γ pc lo (.int x :: st) S k sl := by
  obtain ⟨p, l, e1, R, s, m, args, below, meth, c, Q, A, D, cT, d0⟩ := Γ
  obtain ⟨hx, hb, hown, hts, hK, hA, hV, hRf, hRl, hRc, hRs⟩ := G
  intro H locs ls hR hS hL
  subst hz
  exact lv_ineg hx hb d (kk H locs ls hR hS hL)
theorem g_i2l (G : gOK Γ own cc n mc ms) {x : Int32} {z : Int64} (d : decode cc pc = .ok (.i2l, 1)) (hz : x.toInt64 = z) (kk : gW Γ (pc + 1) lo (.long z :: st) S k sl) : gW Γ pc lo (.int x :: st) S k sl := by
  obtain ⟨p, l, e1, R, s, m, args, below, meth, c, Q, A, D, cT, d0⟩ := Γ
  obtain ⟨hx, hb, hown, hts, hK, hA, hV, hRf, hRl, hRc, hRs⟩ := G
  intro H locs ls hR hS hL
  exact lv_i2l hx hb d hz (kk H locs ls hR hS hL)
theorem g_i2b (G : gOK Γ own cc n mc ms) {x z : Int32} (d : decode cc pc = .ok (.i2b, 1)) (hz : x.toInt8.toInt32 = z) (kk : gW Γ (pc + 1) lo (.int z :: st) S k sl) : gW Γ pc lo (.int x :: st) S k sl := by
  obtain ⟨p, l, e1, R, s, m, args, below, meth, c, Q, A, D, cT, d0⟩ := Γ
  obtain ⟨hx, hb, hown, hts, hK, hA, hV, hRf, hRl, hRc, hRs⟩ := G
  intro H locs ls hR hS hL
  exact lv_i2b hx hb d hz (kk H locs ls hR hS hL)
theorem g_i2d (G : gOK Γ own cc n mc ms) {x : Int32} (d : decode cc pc = .ok (.i2d, 1)) (kk : gW Γ (pc + 1) lo (.double (FP.i2d x) :: st) S k sl) : gW Γ pc lo (.int x :: st) S k sl := by
  obtain ⟨p, l, e1, R, s, m, args, below, meth, c, Q, A, D, cT, d0⟩ := Γ
  obtain ⟨hx, hb, hown, hts, hK, hA, hV, hRf, hRl, hRc, hRs⟩ := G
  intro H locs ls hR hS hL
  exact lv_i2d hx hb d (kk H locs ls hR hS hL)
theorem g_ddiv (G : gOK Γ own cc n mc ms) {x y : UInt64} (d : decode cc pc = .ok (.ddiv, 1)) (hne : vf_n64 (FP.ddiv x y)) (kk : gW Γ (pc + 1) lo (.double (FP.ddiv x y) :: st) S k sl) : gW Γ pc lo (.double y :: .double x :: st) S k sl := by
  obtain ⟨p, l, e1, R, s, m, args, below, meth, c, Q, A, D, cT, d0⟩ := Γ
  obtain ⟨hx, hb, hown, hts, hK, hA, hV, hRf, hRl, hRc, hRs⟩ := G
  intro H locs ls hR hS hL
  exact lv_ddiv hx hb d hne (kk H locs ls hR hS hL)
theorem g_dcmp (G : gOK Γ own cc n mc ms) {x y : UInt64} {op : CmpOp} (d : decode cc pc = .ok (.dcmp op, 1)) (kk : gW Γ (pc + 1) lo (.int (Op.cmpValue (FP.dcmp x y) op) :: st) S k sl) : gW Γ pc lo (.double y :: .double x :: st) S k sl := by
  obtain ⟨p, l, e1, R, s, m, args, below, meth, c, Q, A, D, cT, d0⟩ := Γ
  obtain ⟨hx, hb, hown, hts, hK, hA, hV, hRf, hRl, hRc, hRs⟩ := G
  intro H locs ls hR hS hL
  exact lv_dcmp hx hb d (kk H locs ls hR hS hL)
theorem g_lcmp (G : gOK Γ own cc n mc ms) {x y : Int64} (d : decode cc pc = .ok (.lcmp, 1)) (kk : gW Γ (pc + 1) lo (.int (lg_cmp x y) :: st) S k sl) : gW Γ pc lo (.long y :: .long x :: st) S k sl := by
  obtain ⟨p, l, e1, R, s, m, args, below, meth, c, Q, A, D, cT, d0⟩ := Γ
  obtain ⟨hx, hb, hown, hts, hK, hA, hV, hRf, hRl, hRc, hRs⟩ := G
  intro H locs ls hR hS hL
  exact W.lcmp hx hb d (kk H locs ls hR hS hL)
theorem g_dup (G : gOK Γ own cc n mc ms) {x : Value} (d : decode cc pc = .ok (.dup, 1)) (hx9 : x.category = 1) (kk : gW Γ (pc + 1) lo (x :: x :: st) S k sl) : gW Γ pc lo (x :: st) S k sl := by
  obtain ⟨p, l, e1, R, s, m, args, below, meth, c, Q, A, D, cT, d0⟩ := Γ
  obtain ⟨hx, hb, hown, hts, hK, hA, hV, hRf, hRl, hRc, hRs⟩ := G
  intro H locs ls hR hS hL
  exact lv_dup hx hb d hx9 (kk H locs ls hR hS hL)
theorem g_pop (G : gOK Γ own cc n mc ms) {x : Value} (d : decode cc pc = .ok (.pop, 1)) (hx9 : x.category = 1) (kk : gW Γ (pc + 1) lo (st) S k sl) : gW Γ pc lo (x :: st) S k sl := by
  obtain ⟨p, l, e1, R, s, m, args, below, meth, c, Q, A, D, cT, d0⟩ := Γ
  obtain ⟨hx, hb, hown, hts, hK, hA, hV, hRf, hRl, hRc, hRs⟩ := G
  intro H locs ls hR hS hL
  exact lv_pop hx hb d hx9 (kk H locs ls hR hS hL)
theorem g_dup_x1 (G : gOK Γ own cc n mc ms) {x y : Value} (d : decode cc pc = .ok (.dup_x1, 1)) (hx9 : x.category = 1) (hy9 : y.category = 1) (kk : gW Γ (pc + 1) lo (x :: y :: x :: st) S k sl) : gW Γ pc lo (x :: y :: st) S k sl := by
  obtain ⟨p, l, e1, R, s, m, args, below, meth, c, Q, A, D, cT, d0⟩ := Γ
  obtain ⟨hx, hb, hown, hts, hK, hA, hV, hRf, hRl, hRc, hRs⟩ := G
  intro H locs ls hR hS hL
  exact lv_dup_x1 hx hb d hx9 hy9 (kk H locs ls hR hS hL)
theorem g_dup_x2 (G : gOK Γ own cc n mc ms) {x y z : Value} (d : decode cc pc = .ok (.dup_x2, 1)) (hx9 : x.category = 1) (hy9 : y.category = 1) (hz9 : z.category = 1) (kk : gW Γ (pc + 1) lo (x :: y :: z :: x :: st) S k sl) : gW Γ pc lo (x :: y :: z :: st) S k sl := by
  obtain ⟨p, l, e1, R, s, m, args, below, meth, c, Q, A, D, cT, d0⟩ := Γ
  obtain ⟨hx, hb, hown, hts, hK, hA, hV, hRf, hRl, hRc, hRs⟩ := G
  intro H locs ls hR hS hL
  exact lv_dup_x2 hx hb d hx9 hy9 hz9 (kk H locs ls hR hS hL)
theorem g_dup2 (G : gOK Γ own cc n mc ms) {x y : Value} (d : decode cc pc = .ok (.dup2, 1)) (hx9 : x.category = 1) (hy9 : y.category = 1) (kk : gW Γ (pc + 1) lo (x :: y :: x :: y :: st) S k sl) : gW Γ pc lo (x :: y :: st) S k sl := by
  obtain ⟨p, l, e1, R, s, m, args, below, meth, c, Q, A, D, cT, d0⟩ := Γ
  obtain ⟨hx, hb, hown, hts, hK, hA, hV, hRf, hRl, hRc, hRs⟩ := G
  intro H locs ls hR hS hL
  exact lv_dup2_11 hx hb d hx9 hy9 (kk H locs ls hR hS hL)
theorem g_if_eq (G : gOK Γ own cc n mc ms) {x : Int32} {off : Int} {tgt : Nat} (d : decode cc pc = .ok (.ifCond .eq off, 3)) (ht : (pc : Int) + off = (tgt : Int)) (kt : x = 0 → gW Γ tgt lo st S k sl) (kf : ¬ x = 0 → gW Γ (pc + 3) lo st S k sl) : gW Γ pc lo (.int x :: st) S k sl := by
  obtain ⟨p, l, e1, R, s, m, args, below, meth, c, Q, A, D, cT, d0⟩ := Γ
  obtain ⟨hx, hb, hown, hts, hK, hA, hV, hRf, hRl, hRc, hRs⟩ := G
  intro H locs ls hR hS hL
  exact lv_if_eq hx hb d ht (fun z => kt z H locs ls hR hS hL) (fun z => kf z H locs ls hR hS hL)
theorem g_icmp_eq (G : gOK Γ own cc n mc ms) {x y : Int32} {off : Int} {tgt : Nat} (d : decode cc pc = .ok (.if_icmp .eq off, 3)) (ht : (pc : Int) + off = (tgt : Int)) (kt : x = y → gW Γ tgt lo st S k sl) (kf : ¬ x = y → gW Γ (pc + 3) lo st S k sl) : gW Γ pc lo (.int y :: .int x :: st) S k sl := by
  obtain ⟨p, l, e1, R, s, m, args, below, meth, c, Q, A, D, cT, d0⟩ := Γ
  obtain ⟨hx, hb, hown, hts, hK, hA, hV, hRf, hRl, hRc, hRs⟩ := G
  intro H locs ls hR hS hL
  exact lv_icmp_eq hx hb d ht (fun z => kt z H locs ls hR hS hL) (fun z => kf z H locs ls hR hS hL)
theorem g_if_ne (G : gOK Γ own cc n mc ms) {x : Int32} {off : Int} {tgt : Nat} (d : decode cc pc = .ok (.ifCond .ne off, 3)) (ht : (pc : Int) + off = (tgt : Int)) (kt : ¬ x = 0 → gW Γ tgt lo st S k sl) (kf : x = 0 → gW Γ (pc + 3) lo st S k sl) : gW Γ pc lo (.int x :: st) S k sl := by
  obtain ⟨p, l, e1, R, s, m, args, below, meth, c, Q, A, D, cT, d0⟩ := Γ
  obtain ⟨hx, hb, hown, hts, hK, hA, hV, hRf, hRl, hRc, hRs⟩ := G
  intro H locs ls hR hS hL
  exact lv_if_ne hx hb d ht (fun z => kt z H locs ls hR hS hL) (fun z => kf z H locs ls hR hS hL)
theorem g_icmp_ne (G : gOK Γ own cc n mc ms) {x y : Int32} {off : Int} {tgt : Nat} (d : decode cc pc = .ok (.if_icmp .ne off, 3)) (ht : (pc : Int) + off = (tgt : Int)) (kt : ¬ x = y → gW Γ tgt lo st S k sl) (kf : x = y → gW Γ (pc + 3) lo st S k sl) : gW Γ pc lo (.int y :: .int x :: st) S k sl := by
  obtain ⟨p, l, e1, R, s, m, args, below, meth, c, Q, A, D, cT, d0⟩ := Γ
  obtain ⟨hx, hb, hown, hts, hK, hA, hV, hRf, hRl, hRc, hRs⟩ := G
  intro H locs ls hR hS hL
  exact lv_icmp_ne hx hb d ht (fun z => kt z H locs ls hR hS hL) (fun z => kf z H locs ls hR hS hL)
theorem g_if_lt (G : gOK Γ own cc n mc ms) {x : Int32} {off : Int} {tgt : Nat} (d : decode cc pc = .ok (.ifCond .lt off, 3)) (ht : (pc : Int) + off = (tgt : Int)) (kt : x < 0 → gW Γ tgt lo st S k sl) (kf : ¬ x < 0 → gW Γ (pc + 3) lo st S k sl) : gW Γ pc lo (.int x :: st) S k sl := by
  obtain ⟨p, l, e1, R, s, m, args, below, meth, c, Q, A, D, cT, d0⟩ := Γ
  obtain ⟨hx, hb, hown, hts, hK, hA, hV, hRf, hRl, hRc, hRs⟩ := G
  intro H locs ls hR hS hL
  exact lv_if_lt hx hb d ht (fun z => kt z H locs ls hR hS hL) (fun z => kf z H locs ls hR hS hL)
theorem g_icmp_lt (G : gOK Γ own cc n mc ms) {x y : Int32} {off : Int} {tgt : Nat} (d : decode cc pc = .ok (.if_icmp .lt off, 3)) (ht : (pc : Int) + off = (tgt : Int)) (kt : x < y → gW Γ tgt lo st S k sl) (kf : ¬ x < y → gW Γ (pc + 3) lo st S k sl) : gW Γ pc lo (.int y :: .int x :: st) S k sl := by
  obtain ⟨p, l, e1, R, s, m, args, below, meth, c, Q, A, D, cT, d0⟩ := Γ
  obtain ⟨hx, hb, hown, hts, hK, hA, hV, hRf, hRl, hRc, hRs⟩ := G
  intro H locs ls hR hS hL
  exact lv_icmp_lt hx hb d ht (fun z => kt z H locs ls hR hS hL) (fun z => kf z H locs ls hR hS hL)
theorem g_if_ge (G : gOK Γ own cc n mc ms) {x : Int32} {off : Int} {tgt : Nat} (d : decode cc pc = .ok (.ifCond .ge off, 3)) (ht : (pc : Int) + off = (tgt : Int)) (kt : 0 ≤ x → gW Γ tgt lo st S k sl) (kf : ¬ 0 ≤ x → gW Γ (pc + 3) lo st S k sl) : gW Γ pc lo (.int x :: st) S k sl := by
  obtain ⟨p, l, e1, R, s, m, args, below, meth, c, Q, A, D, cT, d0⟩ := Γ
  obtain ⟨hx, hb, hown, hts, hK, hA, hV, hRf, hRl, hRc, hRs⟩ := G
  intro H locs ls hR hS hL
  exact lv_if_ge hx hb d ht (fun z => kt z H locs ls hR hS hL) (fun z => kf z H locs ls hR hS hL)
theorem g_icmp_ge (G : gOK Γ own cc n mc ms) {x y : Int32} {off : Int} {tgt : Nat} (d : decode cc pc = .ok (.if_icmp .ge off, 3)) (ht : (pc : Int) + off = (tgt : Int)) (kt : y ≤ x → gW Γ tgt lo st S k sl) (kf : ¬ y ≤ x → gW Γ (pc + 3) lo st S k sl) : gW Γ pc lo (.int y :: .int x :: st) S k sl := by
  obtain ⟨p, l, e1, R, s, m, args, below, meth, c, Q, A, D, cT, d0⟩ := Γ
  obtain ⟨hx, hb, hown, hts, hK, hA, hV, hRf, hRl, hRc, hRs⟩ := G
  intro H locs ls hR hS hL
  exact lv_icmp_ge hx hb d ht (fun z => kt z H locs ls hR hS hL) (fun z => kf z H locs ls hR hS hL)
theorem g_if_gt (G : gOK Γ own cc n mc ms) {x : Int32} {off : Int} {tgt : Nat} (d : decode cc pc = .ok (.ifCond .gt off, 3)) (ht : (pc : Int) + off = (tgt : Int)) (kt : 0 < x → gW Γ tgt lo st S k sl) (kf : ¬ 0 < x → gW Γ (pc + 3) lo st S k sl) : gW Γ pc lo (.int x :: st) S k sl := by
  obtain ⟨p, l, e1, R, s, m, args, below, meth, c, Q, A, D, cT, d0⟩ := Γ
  obtain ⟨hx, hb, hown, hts, hK, hA, hV, hRf, hRl, hRc, hRs⟩ := G
  intro H locs ls hR hS hL
  exact lv_if_gt hx hb d ht (fun z => kt z H locs ls hR hS hL) (fun z => kf z H locs ls hR hS hL)
theorem g_icmp_gt (G : gOK Γ own cc n mc ms) {x y : Int32} {off : Int} {tgt : Nat} (d : decode cc pc = .ok (.if_icmp .gt off, 3)) (ht : (pc : Int) + off = (tgt : Int)) (kt : y < x → gW Γ tgt lo st S k sl) (kf : ¬ y < x → gW Γ (pc + 3) lo st S k sl) : gW Γ pc lo (.int y :: .int x :: st) S k sl := by
  obtain ⟨p, l, e1, R, s, m, args, below, meth, c, Q, A, D, cT, d0⟩ := Γ
  obtain ⟨hx, hb, hown, hts, hK, hA, hV, hRf, hRl, hRc, hRs⟩ := G
  intro H locs ls hR hS hL
  exact lv_icmp_gt hx hb d ht (fun z => kt z H locs ls hR hS hL) (fun z => kf z H locs ls hR hS hL)
theorem g_if_le (G : gOK Γ own cc n mc ms) {x : Int32} {off : Int} {tgt : Nat} (d : decode cc pc = .ok (.ifCond .le off, 3)) (ht : (pc : Int) + off = (tgt : Int)) (kt : x ≤ 0 → gW Γ tgt lo st S k sl) (kf : ¬ x ≤ 0 → gW Γ (pc + 3) lo st S k sl) : gW Γ pc lo (.int x :: st) S k sl := by
  obtain ⟨p, l, e1, R, s, m, args, below, meth, c, Q, A, D, cT, d0⟩ := Γ
  obtain ⟨hx, hb, hown, hts, hK, hA, hV, hRf, hRl, hRc, hRs⟩ := G
  intro H locs ls hR hS hL
  exact lv_if_le hx hb d ht (fun z => kt z H locs ls hR hS hL) (fun z => kf z H locs ls hR hS hL)
theorem g_icmp_le (G : gOK Γ own cc n mc ms) {x y : Int32} {off : Int} {tgt : Nat} (d : decode cc pc = .ok (.if_icmp .le off, 3)) (ht : (pc : Int) + off = (tgt : Int)) (kt : x ≤ y → gW Γ tgt lo st S k sl) (kf : ¬ x ≤ y → gW Γ (pc + 3) lo st S k sl) : gW Γ pc lo (.int y :: .int x :: st) S k sl := by
  obtain ⟨p, l, e1, R, s, m, args, below, meth, c, Q, A, D, cT, d0⟩ := Γ
  obtain ⟨hx, hb, hown, hts, hK, hA, hV, hRf, hRl, hRc, hRs⟩ := G
  intro H locs ls hR hS hL
  exact lv_icmp_le hx hb d ht (fun z => kt z H locs ls hR hS hL) (fun z => kf z H locs ls hR hS hL)
theorem g_goto (G : gOK Γ own cc n mc ms) {off : Int} {tgt : Nat} (d : decode cc pc = .ok (.goto off, 3)) (ht : (pc : Int) + off = (tgt : Int)) (kk : gW Γ tgt lo st S k sl) : gW Γ pc lo st S k sl := by
  obtain ⟨p, l, e1, R, s, m, args, below, meth, c, Q, A, D, cT, d0⟩ := Γ
  obtain ⟨hx, hb, hown, hts, hK, hA, hV, hRf, hRl, hRc, hRs⟩ := G
  intro H locs ls hR hS hL
  exact lv_goto hx hb d ht (kk H locs ls hR hS hL)
theorem g_ifnonnull (G : gOK Γ own cc n mc ms) {x : Nat} {off : Int} {tgt : Nat} (d : decode cc pc = .ok (.ifnonnull off, 3)) (ht : (pc : Int) + off = (tgt : Int)) (kk : gW Γ (tgt) lo st S k sl) : gW Γ pc lo (.ref x :: st) S k sl := by
  obtain ⟨p, l, e1, R, s, m, args, below, meth, c, Q, A, D, cT, d0⟩ := Γ
  obtain ⟨hx, hb, hown, hts, hK, hA, hV, hRf, hRl, hRc, hRs⟩ := G
  intro H locs ls hR hS hL
  exact lv_ifnonnull hx hb d ht (kk H locs ls hR hS hL)
theorem g_ifnull (G : gOK Γ own cc n mc ms) {x : Nat} {off : Int} (d : decode cc pc = .ok (.ifnull off, 3)) (kk : gW Γ (pc + 3) lo st S k sl) : gW Γ pc lo (.ref x :: st) S k sl := by
  obtain ⟨p, l, e1, R, s, m, args, below, meth, c, Q, A, D, cT, d0⟩ := Γ
  obtain ⟨hx, hb, hown, hts, hK, hA, hV, hRf, hRl, hRc, hRs⟩ := G
  intro H locs ls hR hS hL
  exact lv_ifnull hx hb d (kk H locs ls hR hS hL)
theorem g_ifnullN (G : gOK Γ own cc n mc ms) {off : Int} {tgt : Nat} (d : decode cc pc = .ok (.ifnull off, 3)) (ht : (pc : Int) + off = (tgt : Int)) (kk : gW Γ (tgt) lo st S k sl) : gW Γ pc lo (.null :: st) S k sl := by
  obtain ⟨p, l, e1, R, s, m, args, below, meth, c, Q, A, D, cT, d0⟩ := Γ
  obtain ⟨hx, hb, hown, hts, hK, hA, hV, hRf, hRl, hRc, hRs⟩ := G
  intro H locs ls hR hS hL
  exact lv_ifnullN hx hb d ht (kk H locs ls hR hS hL)
theorem g_ifnonnullN (G : gOK Γ own cc n mc ms) {off : Int} (d : decode cc pc = .ok (.ifnonnull off, 3)) (kk : gW Γ (pc + 3) lo st S k sl) : gW Γ pc lo (.null :: st) S k sl := by
  obtain ⟨p, l, e1, R, s, m, args, below, meth, c, Q, A, D, cT, d0⟩ := Γ
  obtain ⟨hx, hb, hown, hts, hK, hA, hV, hRf, hRl, hRc, hRs⟩ := G
  intro H locs ls hR hS hL
  exact lv_ifnonnullN hx hb d (kk H locs ls hR hS hL)
theorem g_acmp_eq (G : gOK Γ own cc n mc ms) {rx ry : Option Nat} {off : Int} {tgt : Nat} (d : decode cc pc = .ok (.if_acmp .eq off, 3)) (ht : (pc : Int) + off = (tgt : Int)) (kt : rx = ry → gW Γ tgt lo st S k sl) (kf : ¬ rx = ry → gW Γ (pc + 3) lo st S k sl) : gW Γ pc lo (va_rf ry :: va_rf rx :: st) S k sl := by
  obtain ⟨p, l, e1, R, s, m, args, below, meth, c, Q, A, D, cT, d0⟩ := Γ
  obtain ⟨hx, hb, hown, hts, hK, hA, hV, hRf, hRl, hRc, hRs⟩ := G
  intro H locs ls hR hS hL
  exact lv_acmp_eq hx hb d ht (fun z => kt z H locs ls hR hS hL) (fun z => kf z H locs ls hR hS hL)
theorem g_acmp_ne (G : gOK Γ own cc n mc ms) {rx ry : Option Nat} {off : Int} {tgt : Nat} (d : decode cc pc = .ok (.if_acmp .ne off, 3)) (ht : (pc : Int) + off = (tgt : Int)) (kt : ¬ rx = ry → gW Γ tgt lo st S k sl) (kf : rx = ry → gW Γ (pc + 3) lo st S k sl) : gW Γ pc lo (va_rf ry :: va_rf rx :: st) S k sl := by
  obtain ⟨p, l, e1, R, s, m, args, below, meth, c, Q, A, D, cT, d0⟩ := Γ
  obtain ⟨hx, hb, hown, hts, hK, hA, hV, hRf, hRl, hRc, hRs⟩ := G
  intro H locs ls hR hS hL
  exact lv_acmp_ne hx hb d ht (fun z => kt z H locs ls hR hS hL) (fun z => kf z H locs ls hR hS hL)
theorem g_tableIn (G : gOK Γ own cc n mc ms) {dflt lw hi : Int} {offs : Array Int} {len : Nat} {x : Int32} {off : Int} {tgt : Nat} (d : decode cc pc = .ok (.tableswitch dflt lw hi offs, len)) (h1 : ¬ x.toInt < lw) (h2 : ¬ hi < x.toInt) (ho : offs[(x.toInt - lw).toNat]? = some off) (ht : (pc : Int) + off = (tgt : Int)) (kk : gW Γ tgt lo st S k sl) : gW Γ pc lo (.int x :: st) S k sl := by
  obtain ⟨p, l, e1, R, s, m, args, below, meth, c, Q, A, D, cT, d0⟩ := Γ
  obtain ⟨hx, hb, hown, hts, hK, hA, hV, hRf, hRl, hRc, hRs⟩ := G
  intro H locs ls hR hS hL
  exact lv_tableIn hx hb d h1 h2 ho ht (kk H locs ls hR hS hL)
theorem g_tableOut (G : gOK Γ own cc n mc ms) {dflt lw hi : Int} {offs : Array Int} {len : Nat} {x : Int32} {tgt : Nat} (d : decode cc pc = .ok (.tableswitch dflt lw hi offs, len)) (h : x.toInt < lw ∨ hi < x.toInt) (ht : (pc : Int) + dflt = (tgt : Int)) (kk : gW Γ tgt lo st S k sl) : gW Γ pc lo (.int x :: st) S k sl := by
  obtain ⟨p, l, e1, R, s, m, args, below, meth, c, Q, A, D, cT, d0⟩ := Γ
  obtain ⟨hx, hb, hown, hts, hK, hA, hV, hRf, hRl, hRc, hRs⟩ := G
  intro H locs ls hR hS hL
  exact lv_tableOut hx hb d h ht (kk H locs ls hR hS hL)
end GROWS
end
section
/-! ===== rows that read and write the store ===== -/
theorem gRow_setI {S : gS} {κ f a : Nat} {v : Int32} : ∀ (l : List Bool), l[f]? = some false → gRow (sX S κ f a v) κ a 0 l = (gRow S κ a 0 l).set f (.int v) := by
  intro l hl
  have hlen : f < l.length := (List.getElem?_eq_some_iff.mp hl).1
  apply List.ext_getElem?
  intro i
  rw [gRow_at]
  by_cases hi : i = f
  · subst hi
    rw [List.getElem?_set_self (by rw [gRow_len]; exact hlen), hl]
    simp only [Option.map_some, Nat.zero_add]
    show some (Value.int (u3 S.2.2.1 κ i a v κ i a)) = _
    rw [u3_same]
  · rw [List.getElem?_set_ne (fun z => hi z.symm), gRow_at]
    simp only [Nat.zero_add]
    show Option.map (fun b => if b = true then va_rf (gY S κ i a) else Value.int (u3 S.2.2.1 κ f a v κ i a)) l[i]? = _
    rw [u3_p _ _ hi]
theorem gRow_setQ {S : gS} {κ f a : Nat} {v : Option Nat} : ∀ (l : List Bool), l[f]? = some true → gRow (sY S κ f a v) κ a 0 l = (gRow S κ a 0 l).set f (va_rf v) := by
  intro l hl
  have hlen : f < l.length := (List.getElem?_eq_some_iff.mp hl).1
  apply List.ext_getElem?
  intro i
  rw [gRow_at]
  by_cases hi : i = f
  · subst hi
    rw [List.getElem?_set_self (by rw [gRow_len]; exact hlen), hl]
    simp only [Option.map_some, Nat.zero_add]
    show some (va_rf (u3 S.2.2.2.1 κ i a v κ i a)) = _
    rw [u3_same]
  · rw [List.getElem?_set_ne (fun z => hi z.symm), gRow_at]
    simp only [Nat.zero_add]
    show Option.map (fun b => if b = true then va_rf (u3 S.2.2.2.1 κ f a v κ i a) else Value.int (gX S κ i a)) l[i]? = _
    rw [u3_p _ _ hi]
theorem gEnt_oX {cT : Nat → ClassId} {S : gS} {κ f a : Nat} {v : Int32} (hκ : κ % 32 < 16) : ∀ b, b ≠ a → gK S b ≠ 0 → gEnt cT (sX S κ f a v) b = gEnt cT S b := fun b hb _ =>
  gEnt_eq rfl (fun _ => rfl) (fun j _ => u3_q _ _ hb) (fun _ _ => rfl) (fun h => funext fun j => u3_k _ _ (fun z => by rw [z] at h; omega)) (fun _ => rfl) (fun _ => rfl)
theorem gEnt_oY {cT : Nat → ClassId} {S : gS} {κ f a : Nat} {v : Option Nat} (hκ : κ % 32 < 16) : ∀ b, b ≠ a → gK S b ≠ 0 → gEnt cT (sY S κ f a v) b = gEnt cT S b := fun b hb _ =>
  gEnt_eq rfl (fun _ => rfl) (fun _ _ => rfl) (fun j _ => u3_q _ _ hb) (fun _ => rfl) (fun h => funext fun j => u3_k _ _ (fun z => by rw [z] at h; omega)) (fun _ => rfl)
theorem gEnt_aX {cT : Nat → ClassId} {S : gS} {κ i a : Nat} {v : Int32} (hκ : 16 ≤ κ % 32) : ∀ b, b ≠ a → gK S b ≠ 0 → gEnt cT (sX S κ a i v) b = gEnt cT S b := fun b hb _ =>
  gEnt_eq rfl (fun _ => rfl) (fun j h => u3_k _ _ (fun z => by rw [z] at h; omega)) (fun _ _ => rfl) (fun _ => funext fun j => u3_p _ _ hb) (fun _ => rfl) (fun _ => rfl)
theorem gEnt_aY {cT : Nat → ClassId} {S : gS} {κ i a : Nat} {v : Option Nat} (hκ : 16 ≤ κ % 32) : ∀ b, b ≠ a → gK S b ≠ 0 → gEnt cT (sY S κ a i v) b = gEnt cT S b := fun b hb _ =>
  gEnt_eq rfl (fun _ => rfl) (fun _ _ => rfl) (fun j h => u3_k _ _ (fun z => by rw [z] at h; omega)) (fun _ => rfl) (fun _ => funext fun j => u3_p _ _ hb) (fun _ => rfl)
theorem gEnt_aZ {cT : Nat → ClassId} {S : gS} {κ i a : Nat} {v : Int64} : ∀ b, b ≠ a → gK S b ≠ 0 → gEnt cT (sZ S κ a i v) b = gEnt cT S b := fun b hb _ =>
  gEnt_eq rfl (fun _ => rfl) (fun _ _ => rfl) (fun _ _ => rfl) (fun _ => rfl) (fun _ => rfl) (fun _ => funext fun j => u3_p _ _ hb)
theorem gEnt_aXr {cT : Nat → ClassId} {S : gS} {κ a : Nat} {v : Nat → Int32} (hκ : 16 ≤ κ % 32) : ∀ b, b ≠ a → gK S b ≠ 0 → gEnt cT (sXr S κ a v) b = gEnt cT S b := fun b hb _ =>
  gEnt_eq rfl (fun _ => rfl) (fun j h => u2_k _ _ (fun z => by rw [z] at h; omega)) (fun _ _ => rfl) (fun _ => funext fun j => u2_p _ _ hb) (fun _ => rfl) (fun _ => rfl)
theorem gEnt_aYr {cT : Nat → ClassId} {S : gS} {κ a : Nat} {v : Nat → Option Nat} (hκ : 16 ≤ κ % 32) : ∀ b, b ≠ a → gK S b ≠ 0 → gEnt cT (sYr S κ a v) b = gEnt cT S b := fun b hb _ =>
  gEnt_eq rfl (fun _ => rfl) (fun _ _ => rfl) (fun j h => u2_k _ _ (fun z => by rw [z] at h; omega)) (fun _ => rfl) (fun _ => funext fun j => u2_p _ _ hb) (fun _ => rfl)
theorem gEnt_nN {cT : Nat → ClassId} {S : gS} {κ a : Nat} (hκ : κ % 32 < 16) : ∀ b, b ≠ a → gK S b ≠ 0 → gEnt cT (sN S κ a) b = gEnt cT S b := fun b hb _ =>
  gEnt_eq (va_up_ne _ _ hb) (fun _ => rfl) (fun j _ => if_neg (fun z => hb z.2)) (fun j _ => if_neg (fun z => hb z.2)) (fun h => funext fun j => if_neg (fun z => by rw [z.1] at h; omega)) (fun h => funext fun j => if_neg (fun z => by rw [z.1] at h; omega)) (fun _ => rfl)
theorem gEnt_nM {cT : Nat → ClassId} {S : gS} {κ a N : Nat} (hκ : 16 ≤ κ % 32) : ∀ b, b ≠ a → gK S b ≠ 0 → gEnt cT (sM S κ a N) b = gEnt cT S b := fun b hb _ =>
  gEnt_eq (va_up_ne _ _ hb) (fun _ => va_up_ne _ _ hb) (fun j h => if_neg (fun z => by rw [z.1] at h; omega)) (fun j h => if_neg (fun z => by rw [z.1] at h; omega)) (fun _ => funext fun j => if_neg (fun z => hb z.2)) (fun _ => funext fun j => if_neg (fun z => hb z.2)) (fun _ => funext fun j => if_neg (fun z => hb z.2))
/-! what the tables say of a field under an entry of the pool -/
def gFld (own : String) (index ci f : Nat) : Prop := ∃ (C : String) (T : u_T) (N : Nat) (ref : String), vwCl[ci]? = some (C, T, N) ∧ f < N ∧ (∀ w ∈ u_ws C T N, w ∈ gWords) ∧ Cond.fieldLink own index ref (T f).2.1 (T f).2.2.1 ∈ gWords ∧ (ref = (T f).1 ∨ Cond.sameField ref (T f).1 (T f).2.1 (T f).2.2.1 ∈ gWords)
def gFldN (own : String) (index ci f : Nat) (host : String) : Prop := ∃ (C : String) (T : u_T) (N : Nat), vwCl[ci]? = some (C, T, N) ∧ f < N ∧ (∀ w ∈ u_ws C T N, w ∈ gWords) ∧ Cond.fieldLinkNest own index (T f).1 (T f).2.1 (T f).2.2.1 host ∈ gWords
def gPut (ci f : Nat) (fin : Bool) (decl : String) (ok : Value → Prop) : Prop := ∃ (C : String) (T : u_T) (N : Nat) (ty0 : Nat → FieldType), vwCl[ci]? = some (C, T, N) ∧ N = (gFl ci).length ∧ (∀ k, k < N → parseFieldDescriptor (T k).2.2.1 = some (ty0 k)) ∧ (∀ a, a < N → ∀ b, b < N → a ≠ b → (T a).2.1 ≠ (T b).2.1) ∧ (T f).2.2.2 = fin ∧ (T f).1 = decl ∧ ∀ v, ok v → narrow (ty0 f) v = v ∧ fits (ty0 f) v = true
def okI : Value → Prop := fun v => ∃ x, v = .int x
def okQ : Value → Prop := fun v => ∃ o, v = va_rf o
def okZ : Value → Prop := fun v => v = .int 0 ∨ v = .int 1
def gInit (Γ : gC) : Prop := match Γ with
  | (_, _, _, _, _, _, _, _, meth, _, _, _, _, _, _) => meth.name = "<init>"
theorem nI_in2 {c N : Nat} (h : c < N) (hc : c < 2 ^ 31) : vp_in (nI c) N := fun z => z.elim (nI_pos hc) (fun q => by rw [nI_clamp hc] at q; omega)
section GHEAP
variable {Γ : gC} {own : String} {cc : ByteArray} {n mc ms pc : Nat} {lo lo' : List (Option Value)} {st : List Value} {S : gS} {k sl : Nat}
theorem gSame {s : State} {args : Array Value} (hts : ∀ w ∈ gWords, w.before args s = true) {ref : String} {q : String × String × String × Bool} (h : ref = q.1 ∨ Cond.sameField ref q.1 q.2.1 q.2.2.1 ∈ gWords) : ∀ x, s.fieldFound? q.1 q.2.1 q.2.2.1 = some x → s.fieldFound? ref q.2.1 q.2.2.1 = some x := by
  intro x hx
  rcases h with h | h
  · rw [h]; exact hx
  · exact u_same (hts _ h) x hx
theorem g_getf (G : gOK Γ own cc n mc ms) {index ci f a κ : Nat} {v : Value} (fl : gFld own index ci f) (hκ : gK S a = κ) (ht : κ % 32 = ci + 1 ∧ ci < 15) (hv : (gFl ci)[f]?.map (fun b => if b then va_rf (gY S κ f a) else .int (gX S κ f a)) = some v) (d : decode cc pc = .ok (.getfield index, 3)) (kk : gW Γ (pc + 3) lo (v :: st) S k sl) : gW Γ pc lo (.ref a :: st) S k sl := by
  obtain ⟨p, l, e1, R, s, m, args, below, meth, c, Q, A, D, cT, d0⟩ := Γ
  obtain ⟨hx, hb, hown, hts, hK, hA, hV, hRf, hRl, hRc, hRs⟩ := G
  intro H locs ls hR hS hL
  obtain ⟨ws, hP, hD, hw⟩ := hR
  have h0 : gK S a ≠ 0 := by rw [hκ]; omega
  obtain ⟨q0, he⟩ := hw.2 a h0
  rw [gEnt_o hκ (by omega), show κ % 32 - 1 = ci by omega] at he
  obtain ⟨C, T, N, ref, hc, hf, hin, hlink, hsame⟩ := fl
  exact va_get hx hb hts hin hown hK hP q0 he hc f hf (hts _ hlink) (gSame hts hsame) (by rw [gRow_at]; simpa using hv) d (kk H locs ls ⟨ws, hP, hD, hw⟩ hS hL)
theorem g_getI (G : gOK Γ own cc n mc ms) {index ci f a κ : Nat} {v : Int32} (fl : gFld own index ci f) (hκ : gK S a = κ) (ht : κ % 32 = ci + 1 ∧ ci < 15) (hb9 : (gFl ci)[f]? = some false) (hv : gX S κ f a = v) (d : decode cc pc = .ok (.getfield index, 3)) (kk : gW Γ (pc + 3) lo (.int v :: st) S k sl) : gW Γ pc lo (.ref a :: st) S k sl :=
  g_getf G fl hκ ht (by rw [hb9, ← hv]; rfl) d kk
theorem g_getQ (G : gOK Γ own cc n mc ms) {index ci f a κ : Nat} {v : Option Nat} (fl : gFld own index ci f) (hκ : gK S a = κ) (ht : κ % 32 = ci + 1 ∧ ci < 15) (hb9 : (gFl ci)[f]? = some true) (hv : gY S κ f a = v) (d : decode cc pc = .ok (.getfield index, 3)) (kk : gW Γ (pc + 3) lo (va_rf v :: st) S k sl) : gW Γ pc lo (.ref a :: st) S k sl :=
  g_getf G fl hκ ht (by rw [hb9, ← hv]; rfl) d kk
theorem g_getR (G : gOK Γ own cc n mc ms) {index ci f a κ : Nat} {v : Nat} (fl : gFld own index ci f) (hκ : gK S a = κ) (ht : κ % 32 = ci + 1 ∧ ci < 15) (hb9 : (gFl ci)[f]? = some true) (hv : gY S κ f a = some v) (d : decode cc pc = .ok (.getfield index, 3)) (kk : gW Γ (pc + 3) lo (.ref v :: st) S k sl) : gW Γ pc lo (.ref a :: st) S k sl :=
  g_getf G fl hκ ht (by rw [hb9, Option.map_some, if_pos rfl, hv]; rfl) d kk
theorem g_getZ (G : gOK Γ own cc n mc ms) {index ci f a κ : Nat}  (fl : gFld own index ci f) (hκ : gK S a = κ) (ht : κ % 32 = ci + 1 ∧ ci < 15) (hb9 : (gFl ci)[f]? = some true) (hv : gY S κ f a = none) (d : decode cc pc = .ok (.getfield index, 3)) (kk : gW Γ (pc + 3) lo (.null :: st) S k sl) : gW Γ pc lo (.ref a :: st) S k sl :=
  g_getf G fl hκ ht (by rw [hb9, Option.map_some, if_pos rfl, hv]; rfl) d kk
theorem g_getfN (G : gOK Γ own cc n mc ms) {index ci f a κ : Nat} {host : String} {v : Value} (fl : gFldN own index ci f host) (hκ : gK S a = κ) (ht : κ % 32 = ci + 1 ∧ ci < 15) (hv : (gFl ci)[f]?.map (fun b => if b then va_rf (gY S κ f a) else .int (gX S κ f a)) = some v) (d : decode cc pc = .ok (.getfield index, 3)) (kk : gW Γ (pc + 3) lo (v :: st) S k sl) : gW Γ pc lo (.ref a :: st) S k sl := by
  obtain ⟨p, l, e1, R, s, m, args, below, meth, c, Q, A, D, cT, d0⟩ := Γ
  obtain ⟨hx, hb, hown, hts, hK, hA, hV, hRf, hRl, hRc, hRs⟩ := G
  intro H locs ls hR hS hL
  obtain ⟨ws, hP, hD, hw⟩ := hR
  have h0 : gK S a ≠ 0 := by rw [hκ]; omega
  obtain ⟨q0, he⟩ := hw.2 a h0
  rw [gEnt_o hκ (by omega), show κ % 32 - 1 = ci by omega] at he
  obtain ⟨C, T, N, hc, hf, hin, hlink⟩ := fl
  exact va_getN hx hb hts hin hown hK hP q0 he hc f hf (hts _ hlink) (fun _ h9 => h9) (by rw [gRow_at]; simpa using hv) d (kk H locs ls ⟨ws, hP, hD, hw⟩ hS hL)
theorem g_getIN (G : gOK Γ own cc n mc ms) {index ci f a κ : Nat} {host : String} {v : Int32} (fl : gFldN own index ci f host) (hκ : gK S a = κ) (ht : κ % 32 = ci + 1 ∧ ci < 15) (hb9 : (gFl ci)[f]? = some false) (hv : gX S κ f a = v) (d : decode cc pc = .ok (.getfield index, 3)) (kk : gW Γ (pc + 3) lo (.int v :: st) S k sl) : gW Γ pc lo (.ref a :: st) S k sl :=
  g_getfN G fl hκ ht (by rw [hb9, ← hv]; rfl) d kk
theorem g_getQN (G : gOK Γ own cc n mc ms) {index ci f a κ : Nat} {host : String} {v : Option Nat} (fl : gFldN own index ci f host) (hκ : gK S a = κ) (ht : κ % 32 = ci + 1 ∧ ci < 15) (hb9 : (gFl ci)[f]? = some true) (hv : gY S κ f a = v) (d : decode cc pc = .ok (.getfield index, 3)) (kk : gW Γ (pc + 3) lo (va_rf v :: st) S k sl) : gW Γ pc lo (.ref a :: st) S k sl :=
  g_getfN G fl hκ ht (by rw [hb9, ← hv]; rfl) d kk
theorem g_getRN (G : gOK Γ own cc n mc ms) {index ci f a κ : Nat} {host : String} {v : Nat} (fl : gFldN own index ci f host) (hκ : gK S a = κ) (ht : κ % 32 = ci + 1 ∧ ci < 15) (hb9 : (gFl ci)[f]? = some true) (hv : gY S κ f a = some v) (d : decode cc pc = .ok (.getfield index, 3)) (kk : gW Γ (pc + 3) lo (.ref v :: st) S k sl) : gW Γ pc lo (.ref a :: st) S k sl :=
  g_getfN G fl hκ ht (by rw [hb9, Option.map_some, if_pos rfl, hv]; rfl) d kk
theorem g_getZN (G : gOK Γ own cc n mc ms) {index ci f a κ : Nat} {host : String}  (fl : gFldN own index ci f host) (hκ : gK S a = κ) (ht : κ % 32 = ci + 1 ∧ ci < 15) (hb9 : (gFl ci)[f]? = some true) (hv : gY S κ f a = none) (d : decode cc pc = .ok (.getfield index, 3)) (kk : gW Γ (pc + 3) lo (.null :: st) S k sl) : gW Γ pc lo (.ref a :: st) S k sl :=
  g_getfN G fl hκ ht (by rw [hb9, Option.map_some, if_pos rfl, hv]; rfl) d kk
theorem g_putI (G : gOK Γ own cc n mc ms) {index ci f a κ : Nat} {v : Int32} {decl : String} (fl : gFld own index ci f) (pu : gPut ci f false decl okI) (hκ : gK S a = κ) (ht : κ % 32 = ci + 1 ∧ ci < 15) (hb9 : (gFl ci)[f]? = some false) (d : decode cc pc = .ok (.putfield index, 3)) (kk : gW Γ (pc + 3) lo st (sX S κ f a v) k sl) : gW Γ pc lo (.int v :: .ref a :: st) S k sl := by
  obtain ⟨p, l, e1, R, s, m, args, below, meth, c, Q, A, D, cT, d0⟩ := Γ
  obtain ⟨hx, hb, hown, hts, hK, hA, hV, hRf, hRl, hRc, hRs⟩ := G
  intro H locs ls hR hS hL
  obtain ⟨ws, hP, hD, hw⟩ := hR
  have h0 : gK S a ≠ 0 := by rw [hκ]; omega
  obtain ⟨q0, he⟩ := hw.2 a h0
  rw [gEnt_o hκ (by omega), show κ % 32 - 1 = ci by omega] at he
  obtain ⟨C, T, N, ref, hc, hf, hin, hlink, hsame⟩ := fl
  obtain ⟨C', T', N', ty0, hc', hN, hty, hnm, hfin, hdecl, hok⟩ := pu
  cases (Option.some.inj (hc'.symm.trans hc))
  obtain ⟨n1, n2⟩ := hok _ ⟨v, rfl⟩
  refine va_put hx hb hts hin ty0 hty hnm hown hK hP hD hS q0 he hc f hf (hts _ hlink) (gSame hts hsame) hfin (hty f hf) n1 n2 (by rw [gRow_len, ← hN]; exact hf) d (fun H1 locs1 hP1 hD1 hS1 => kk H1 locs1 ls ⟨_, hP1, hD1, ?_⟩ hS1 hL)
  have h9 := hw.put (T := sX S κ f a v) hD he rfl (gEnt_oX (by omega))
  rw [gEnt_o (S := sX S κ f a v) hκ (by omega), show κ % 32 - 1 = ci by omega, gRow_setI _ hb9] at h9
  exact h9
theorem g_putQ (G : gOK Γ own cc n mc ms) {index ci f a κ : Nat} {v : Option Nat} {decl : String} (fl : gFld own index ci f) (pu : gPut ci f false decl okQ) (hκ : gK S a = κ) (ht : κ % 32 = ci + 1 ∧ ci < 15) (hb9 : (gFl ci)[f]? = some true) (d : decode cc pc = .ok (.putfield index, 3)) (kk : gW Γ (pc + 3) lo st (sY S κ f a v) k sl) : gW Γ pc lo (va_rf v :: .ref a :: st) S k sl := by
  obtain ⟨p, l, e1, R, s, m, args, below, meth, c, Q, A, D, cT, d0⟩ := Γ
  obtain ⟨hx, hb, hown, hts, hK, hA, hV, hRf, hRl, hRc, hRs⟩ := G
  intro H locs ls hR hS hL
  obtain ⟨ws, hP, hD, hw⟩ := hR
  have h0 : gK S a ≠ 0 := by rw [hκ]; omega
  obtain ⟨q0, he⟩ := hw.2 a h0
  rw [gEnt_o hκ (by omega), show κ % 32 - 1 = ci by omega] at he
  obtain ⟨C, T, N, ref, hc, hf, hin, hlink, hsame⟩ := fl
  obtain ⟨C', T', N', ty0, hc', hN, hty, hnm, hfin, hdecl, hok⟩ := pu
  cases (Option.some.inj (hc'.symm.trans hc))
  obtain ⟨n1, n2⟩ := hok _ ⟨v, rfl⟩
  refine va_put hx hb hts hin ty0 hty hnm hown hK hP hD hS q0 he hc f hf (hts _ hlink) (gSame hts hsame) hfin (hty f hf) n1 n2 (by rw [gRow_len, ← hN]; exact hf) d (fun H1 locs1 hP1 hD1 hS1 => kk H1 locs1 ls ⟨_, hP1, hD1, ?_⟩ hS1 hL)
  have h9 := hw.put (T := sY S κ f a v) hD he rfl (gEnt_oY (by omega))
  rw [gEnt_o (S := sY S κ f a v) hκ (by omega), show κ % 32 - 1 = ci by omega, gRow_setQ _ hb9] at h9
  exact h9
theorem g_putB (G : gOK Γ own cc n mc ms) {index ci f a κ : Nat} {v : Int32} {decl : String} (fl : gFld own index ci f) (pu : gPut ci f false decl okZ) (hz : okZ (.int v)) (hκ : gK S a = κ) (ht : κ % 32 = ci + 1 ∧ ci < 15) (hb9 : (gFl ci)[f]? = some false) (d : decode cc pc = .ok (.putfield index, 3)) (kk : gW Γ (pc + 3) lo st (sX S κ f a v) k sl) : gW Γ pc lo (.int v :: .ref a :: st) S k sl := by
  obtain ⟨p, l, e1, R, s, m, args, below, meth, c, Q, A, D, cT, d0⟩ := Γ
  obtain ⟨hx, hb, hown, hts, hK, hA, hV, hRf, hRl, hRc, hRs⟩ := G
  intro H locs ls hR hS hL
  obtain ⟨ws, hP, hD, hw⟩ := hR
  have h0 : gK S a ≠ 0 := by rw [hκ]; omega
  obtain ⟨q0, he⟩ := hw.2 a h0
  rw [gEnt_o hκ (by omega), show κ % 32 - 1 = ci by omega] at he
  obtain ⟨C, T, N, ref, hc, hf, hin, hlink, hsame⟩ := fl
  obtain ⟨C', T', N', ty0, hc', hN, hty, hnm, hfin, hdecl, hok⟩ := pu
  cases (Option.some.inj (hc'.symm.trans hc))
  obtain ⟨n1, n2⟩ := hok _ hz
  refine va_put hx hb hts hin ty0 hty hnm hown hK hP hD hS q0 he hc f hf (hts _ hlink) (gSame hts hsame) hfin (hty f hf) n1 n2 (by rw [gRow_len, ← hN]; exact hf) d (fun H1 locs1 hP1 hD1 hS1 => kk H1 locs1 ls ⟨_, hP1, hD1, ?_⟩ hS1 hL)
  have h9 := hw.put (T := sX S κ f a v) hD he rfl (gEnt_oX (by omega))
  rw [gEnt_o (S := sX S κ f a v) hκ (by omega), show κ % 32 - 1 = ci by omega, gRow_setI _ hb9] at h9
  exact h9
theorem g_putIN (G : gOK Γ own cc n mc ms) {index ci f a κ : Nat} {v : Int32} {decl : String} {host : String} (fl : gFldN own index ci f host) (pu : gPut ci f false decl okI) (hκ : gK S a = κ) (ht : κ % 32 = ci + 1 ∧ ci < 15) (hb9 : (gFl ci)[f]? = some false) (d : decode cc pc = .ok (.putfield index, 3)) (kk : gW Γ (pc + 3) lo st (sX S κ f a v) k sl) : gW Γ pc lo (.int v :: .ref a :: st) S k sl := by
  obtain ⟨p, l, e1, R, s, m, args, below, meth, c, Q, A, D, cT, d0⟩ := Γ
  obtain ⟨hx, hb, hown, hts, hK, hA, hV, hRf, hRl, hRc, hRs⟩ := G
  intro H locs ls hR hS hL
  obtain ⟨ws, hP, hD, hw⟩ := hR
  have h0 : gK S a ≠ 0 := by rw [hκ]; omega
  obtain ⟨q0, he⟩ := hw.2 a h0
  rw [gEnt_o hκ (by omega), show κ % 32 - 1 = ci by omega] at he
  obtain ⟨C, T, N, hc, hf, hin, hlink⟩ := fl
  obtain ⟨C', T', N', ty0, hc', hN, hty, hnm, hfin, hdecl, hok⟩ := pu
  cases (Option.some.inj (hc'.symm.trans hc))
  obtain ⟨n1, n2⟩ := hok _ ⟨v, rfl⟩
  refine va_putN hx hb hts hin ty0 hty hnm hown hK hP hD hS q0 he hc f hf (hts _ hlink) (fun _ h9 => h9) hfin (hty f hf) n1 n2 (by rw [gRow_len, ← hN]; exact hf) d (fun H1 locs1 hP1 hD1 hS1 => kk H1 locs1 ls ⟨_, hP1, hD1, ?_⟩ hS1 hL)
  have h9 := hw.put (T := sX S κ f a v) hD he rfl (gEnt_oX (by omega))
  rw [gEnt_o (S := sX S κ f a v) hκ (by omega), show κ % 32 - 1 = ci by omega, gRow_setI _ hb9] at h9
  exact h9
theorem g_putQN (G : gOK Γ own cc n mc ms) {index ci f a κ : Nat} {v : Option Nat} {decl : String} {host : String} (fl : gFldN own index ci f host) (pu : gPut ci f false decl okQ) (hκ : gK S a = κ) (ht : κ % 32 = ci + 1 ∧ ci < 15) (hb9 : (gFl ci)[f]? = some true) (d : decode cc pc = .ok (.putfield index, 3)) (kk : gW Γ (pc + 3) lo st (sY S κ f a v) k sl) : gW Γ pc lo (va_rf v :: .ref a :: st) S k sl := by
  obtain ⟨p, l, e1, R, s, m, args, below, meth, c, Q, A, D, cT, d0⟩ := Γ
  obtain ⟨hx, hb, hown, hts, hK, hA, hV, hRf, hRl, hRc, hRs⟩ := G
  intro H locs ls hR hS hL
  obtain ⟨ws, hP, hD, hw⟩ := hR
  have h0 : gK S a ≠ 0 := by rw [hκ]; omega
  obtain ⟨q0, he⟩ := hw.2 a h0
  rw [gEnt_o hκ (by omega), show κ % 32 - 1 = ci by omega] at he
  obtain ⟨C, T, N, hc, hf, hin, hlink⟩ := fl
  obtain ⟨C', T', N', ty0, hc', hN, hty, hnm, hfin, hdecl, hok⟩ := pu
  cases (Option.some.inj (hc'.symm.trans hc))
  obtain ⟨n1, n2⟩ := hok _ ⟨v, rfl⟩
  refine va_putN hx hb hts hin ty0 hty hnm hown hK hP hD hS q0 he hc f hf (hts _ hlink) (fun _ h9 => h9) hfin (hty f hf) n1 n2 (by rw [gRow_len, ← hN]; exact hf) d (fun H1 locs1 hP1 hD1 hS1 => kk H1 locs1 ls ⟨_, hP1, hD1, ?_⟩ hS1 hL)
  have h9 := hw.put (T := sY S κ f a v) hD he rfl (gEnt_oY (by omega))
  rw [gEnt_o (S := sY S κ f a v) hκ (by omega), show κ % 32 - 1 = ci by omega, gRow_setQ _ hb9] at h9
  exact h9
theorem g_putBN (G : gOK Γ own cc n mc ms) {index ci f a κ : Nat} {v : Int32} {decl : String} {host : String} (fl : gFldN own index ci f host) (pu : gPut ci f false decl okZ) (hz : okZ (.int v)) (hκ : gK S a = κ) (ht : κ % 32 = ci + 1 ∧ ci < 15) (hb9 : (gFl ci)[f]? = some false) (d : decode cc pc = .ok (.putfield index, 3)) (kk : gW Γ (pc + 3) lo st (sX S κ f a v) k sl) : gW Γ pc lo (.int v :: .ref a :: st) S k sl := by
  obtain ⟨p, l, e1, R, s, m, args, below, meth, c, Q, A, D, cT, d0⟩ := Γ
  obtain ⟨hx, hb, hown, hts, hK, hA, hV, hRf, hRl, hRc, hRs⟩ := G
  intro H locs ls hR hS hL
  obtain ⟨ws, hP, hD, hw⟩ := hR
  have h0 : gK S a ≠ 0 := by rw [hκ]; omega
  obtain ⟨q0, he⟩ := hw.2 a h0
  rw [gEnt_o hκ (by omega), show κ % 32 - 1 = ci by omega] at he
  obtain ⟨C, T, N, hc, hf, hin, hlink⟩ := fl
  obtain ⟨C', T', N', ty0, hc', hN, hty, hnm, hfin, hdecl, hok⟩ := pu
  cases (Option.some.inj (hc'.symm.trans hc))
  obtain ⟨n1, n2⟩ := hok _ hz
  refine va_putN hx hb hts hin ty0 hty hnm hown hK hP hD hS q0 he hc f hf (hts _ hlink) (fun _ h9 => h9) hfin (hty f hf) n1 n2 (by rw [gRow_len, ← hN]; exact hf) d (fun H1 locs1 hP1 hD1 hS1 => kk H1 locs1 ls ⟨_, hP1, hD1, ?_⟩ hS1 hL)
  have h9 := hw.put (T := sX S κ f a v) hD he rfl (gEnt_oX (by omega))
  rw [gEnt_o (S := sX S κ f a v) hκ (by omega), show κ % 32 - 1 = ci by omega, gRow_setI _ hb9] at h9
  exact h9
theorem g_putIF (G : gOK Γ own cc n mc ms) {index ci f a κ : Nat} {v : Int32} (fl : gFld own index ci f) (pu : gPut ci f true own okI) (hinit : gInit Γ) (hκ : gK S a = κ) (ht : κ % 32 = ci + 1 ∧ ci < 15) (hb9 : (gFl ci)[f]? = some false) (d : decode cc pc = .ok (.putfield index, 3)) (kk : gW Γ (pc + 3) lo st (sX S κ f a v) k sl) : gW Γ pc lo (.int v :: .ref a :: st) S k sl := by
  obtain ⟨p, l, e1, R, s, m, args, below, meth, c, Q, A, D, cT, d0⟩ := Γ
  obtain ⟨hx, hb, hown, hts, hK, hA, hV, hRf, hRl, hRc, hRs⟩ := G
  intro H locs ls hR hS hL
  obtain ⟨ws, hP, hD, hw⟩ := hR
  have h0 : gK S a ≠ 0 := by rw [hκ]; omega
  obtain ⟨q0, he⟩ := hw.2 a h0
  rw [gEnt_o hκ (by omega), show κ % 32 - 1 = ci by omega] at he
  obtain ⟨C, T, N, ref, hc, hf, hin, hlink, hsame⟩ := fl
  obtain ⟨C', T', N', ty0, hc', hN, hty, hnm, hfin, hdecl, hok⟩ := pu
  cases (Option.some.inj (hc'.symm.trans hc))
  obtain ⟨n1, n2⟩ := hok _ ⟨v, rfl⟩
  refine va_putF hx hb hts hin ty0 hty hnm hown hK hP hD hS q0 he hc f hf (hts _ hlink) (gSame hts hsame) hfin hinit hdecl (hty f hf) n1 n2 (by rw [gRow_len, ← hN]; exact hf) d (fun H1 locs1 hP1 hD1 hS1 => kk H1 locs1 ls ⟨_, hP1, hD1, ?_⟩ hS1 hL)
  have h9 := hw.put (T := sX S κ f a v) hD he rfl (gEnt_oX (by omega))
  rw [gEnt_o (S := sX S κ f a v) hκ (by omega), show κ % 32 - 1 = ci by omega, gRow_setI _ hb9] at h9
  exact h9
theorem g_putQF (G : gOK Γ own cc n mc ms) {index ci f a κ : Nat} {v : Option Nat} (fl : gFld own index ci f) (pu : gPut ci f true own okQ) (hinit : gInit Γ) (hκ : gK S a = κ) (ht : κ % 32 = ci + 1 ∧ ci < 15) (hb9 : (gFl ci)[f]? = some true) (d : decode cc pc = .ok (.putfield index, 3)) (kk : gW Γ (pc + 3) lo st (sY S κ f a v) k sl) : gW Γ pc lo (va_rf v :: .ref a :: st) S k sl := by
  obtain ⟨p, l, e1, R, s, m, args, below, meth, c, Q, A, D, cT, d0⟩ := Γ
  obtain ⟨hx, hb, hown, hts, hK, hA, hV, hRf, hRl, hRc, hRs⟩ := G
  intro H locs ls hR hS hL
  obtain ⟨ws, hP, hD, hw⟩ := hR
  have h0 : gK S a ≠ 0 := by rw [hκ]; omega
  obtain ⟨q0, he⟩ := hw.2 a h0
  rw [gEnt_o hκ (by omega), show κ % 32 - 1 = ci by omega] at he
  obtain ⟨C, T, N, ref, hc, hf, hin, hlink, hsame⟩ := fl
  obtain ⟨C', T', N', ty0, hc', hN, hty, hnm, hfin, hdecl, hok⟩ := pu
  cases (Option.some.inj (hc'.symm.trans hc))
  obtain ⟨n1, n2⟩ := hok _ ⟨v, rfl⟩
  refine va_putF hx hb hts hin ty0 hty hnm hown hK hP hD hS q0 he hc f hf (hts _ hlink) (gSame hts hsame) hfin hinit hdecl (hty f hf) n1 n2 (by rw [gRow_len, ← hN]; exact hf) d (fun H1 locs1 hP1 hD1 hS1 => kk H1 locs1 ls ⟨_, hP1, hD1, ?_⟩ hS1 hL)
  have h9 := hw.put (T := sY S κ f a v) hD he rfl (gEnt_oY (by omega))
  rw [gEnt_o (S := sY S κ f a v) hκ (by omega), show κ % 32 - 1 = ci by omega, gRow_setQ _ hb9] at h9
  exact h9
theorem g_putBF (G : gOK Γ own cc n mc ms) {index ci f a κ : Nat} {v : Int32} (fl : gFld own index ci f) (pu : gPut ci f true own okZ) (hz : okZ (.int v)) (hinit : gInit Γ) (hκ : gK S a = κ) (ht : κ % 32 = ci + 1 ∧ ci < 15) (hb9 : (gFl ci)[f]? = some false) (d : decode cc pc = .ok (.putfield index, 3)) (kk : gW Γ (pc + 3) lo st (sX S κ f a v) k sl) : gW Γ pc lo (.int v :: .ref a :: st) S k sl := by
  obtain ⟨p, l, e1, R, s, m, args, below, meth, c, Q, A, D, cT, d0⟩ := Γ
  obtain ⟨hx, hb, hown, hts, hK, hA, hV, hRf, hRl, hRc, hRs⟩ := G
  intro H locs ls hR hS hL
  obtain ⟨ws, hP, hD, hw⟩ := hR
  have h0 : gK S a ≠ 0 := by rw [hκ]; omega
  obtain ⟨q0, he⟩ := hw.2 a h0
  rw [gEnt_o hκ (by omega), show κ % 32 - 1 = ci by omega] at he
  obtain ⟨C, T, N, ref, hc, hf, hin, hlink, hsame⟩ := fl
  obtain ⟨C', T', N', ty0, hc', hN, hty, hnm, hfin, hdecl, hok⟩ := pu
  cases (Option.some.inj (hc'.symm.trans hc))
  obtain ⟨n1, n2⟩ := hok _ hz
  refine va_putF hx hb hts hin ty0 hty hnm hown hK hP hD hS q0 he hc f hf (hts _ hlink) (gSame hts hsame) hfin hinit hdecl (hty f hf) n1 n2 (by rw [gRow_len, ← hN]; exact hf) d (fun H1 locs1 hP1 hD1 hS1 => kk H1 locs1 ls ⟨_, hP1, hD1, ?_⟩ hS1 hL)
  have h9 := hw.put (T := sX S κ f a v) hD he rfl (gEnt_oX (by omega))
  rw [gEnt_o (S := sX S κ f a v) hκ (by omega), show κ % 32 - 1 = ci by omega, gRow_setI _ hb9] at h9
  exact h9
theorem gT_i {cT : Nat → ClassId} {t : Nat} (h : 16 ≤ t) (h2 : t ≤ 20) : (gT cT)[t - 16]? = some (cT t, gTy t) := by
  have : t = 16 ∨ t = 17 ∨ t = 18 ∨ t = 19 ∨ t = 20 := by omega
  rcases this with rfl | rfl | rfl | rfl | rfl <;> rfl
theorem g_alen (G : gOK Γ own cc n mc ms) {a κ N : Nat} (hκ : gK S a = κ) (ht : 16 ≤ κ % 32 ∧ κ % 32 ≤ 20) (hN : gL S a = N) (d : decode cc pc = .ok (.arraylength, 1)) (kk : gW Γ (pc + 1) lo (.int (nI N) :: st) S k sl) : gW Γ pc lo (.ref a :: st) S k sl := by
  obtain ⟨p, l, e1, R, s, m, args, below, meth, c, Q, A, D, cT, d0⟩ := Γ
  obtain ⟨hx, hb, hown, hts, hK, hA, hV, hRf, hRl, hRc, hRs⟩ := G
  intro H locs ls hR hS hL
  obtain ⟨ws, hP, hD, hw⟩ := hR
  have h0 : gK S a ≠ 0 := by rw [hκ]; omega
  obtain ⟨q0, he⟩ := hw.2 a h0
  subst hN
  by_cases h1 : κ % 32 < 18
  · rw [gEnt_i hκ (by omega)] at he
    exact va_alen hx hb hK hP q0 (κ % 32 - 16) he (gT_i ht.1 ht.2) rfl d (kk H locs ls ⟨ws, hP, hD, hw⟩ hS hL)
  · by_cases h2 : κ % 32 = 18
    · rw [gEnt_l hκ h2] at he
      exact va_alen hx hb hK hP q0 2 he (gT_i (t := 18) (by omega) (by omega)) rfl d (kk H locs ls ⟨ws, hP, hD, hw⟩ hS hL)
    · rw [gEnt_q hκ (by omega)] at he
      exact va_alen hx hb hK hP q0 (κ % 32 - 16) he (gT_i ht.1 ht.2) rfl d (kk H locs ls ⟨ws, hP, hD, hw⟩ hS hL)
theorem g_iald (G : gOK Γ own cc n mc ms) {a κ i : Nat} {v : Int32} (hκ : gK S a = κ) (ht : κ % 32 = 17) (hi : i < gL S a) (hi31 : i < 2 ^ 31) (hv : gX S κ a i = v) (d : decode cc pc = .ok (.iaload, 1)) (kk : gW Γ (pc + 1) lo (.int v :: st) S k sl) : gW Γ pc lo (.int (nI i) :: .ref a :: st) S k sl := by
  obtain ⟨p, l, e1, R, s, m, args, below, meth, c, Q, A, D, cT, d0⟩ := Γ
  obtain ⟨hx, hb, hown, hts, hK, hA, hV, hRf, hRl, hRc, hRs⟩ := G
  intro H locs ls hR hS hL
  obtain ⟨ws, hP, hD, hw⟩ := hR
  have h0 : gK S a ≠ 0 := by rw [hκ]; omega
  obtain ⟨q0, he⟩ := hw.2 a h0
  rw [gEnt_i hκ (by omega), ht] at he
  refine va_iald hx hb hK hP q0 1 he (gT_i (t := 17) (by omega) (by omega)) (i := nI i) (nI_in2 hi hi31) d ?_
  rw [nI_clamp hi31, hv]
  exact kk H locs ls ⟨ws, hP, hD, hw⟩ hS hL
theorem g_bald (G : gOK Γ own cc n mc ms) {a κ i : Nat} {v : Int32} (hκ : gK S a = κ) (ht : κ % 32 = 16) (hi : i < gL S a) (hi31 : i < 2 ^ 31) (hv : gX S κ a i = v) (d : decode cc pc = .ok (.baload, 1)) (kk : gW Γ (pc + 1) lo (.int v :: st) S k sl) : gW Γ pc lo (.int (nI i) :: .ref a :: st) S k sl := by
  obtain ⟨p, l, e1, R, s, m, args, below, meth, c, Q, A, D, cT, d0⟩ := Γ
  obtain ⟨hx, hb, hown, hts, hK, hA, hV, hRf, hRl, hRc, hRs⟩ := G
  intro H locs ls hR hS hL
  obtain ⟨ws, hP, hD, hw⟩ := hR
  have h0 : gK S a ≠ 0 := by rw [hκ]; omega
  obtain ⟨q0, he⟩ := hw.2 a h0
  rw [gEnt_i hκ (by omega), ht] at he
  refine va_bald hx hb hK hP q0 0 he (gT_i (t := 16) (by omega) (by omega)) (i := nI i) (nI_in2 hi hi31) d ?_
  rw [nI_clamp hi31, hv]
  exact kk H locs ls ⟨ws, hP, hD, hw⟩ hS hL
theorem g_lald (G : gOK Γ own cc n mc ms) {a κ i : Nat} {v : Int64} (hκ : gK S a = κ) (ht : κ % 32 = 18) (hi : i < gL S a) (hi31 : i < 2 ^ 31) (hv : gZ S κ a i = v) (d : decode cc pc = .ok (.laload, 1)) (kk : gW Γ (pc + 1) lo (.long v :: st) S k sl) : gW Γ pc lo (.int (nI i) :: .ref a :: st) S k sl := by
  obtain ⟨p, l, e1, R, s, m, args, below, meth, c, Q, A, D, cT, d0⟩ := Γ
  obtain ⟨hx, hb, hown, hts, hK, hA, hV, hRf, hRl, hRc, hRs⟩ := G
  intro H locs ls hR hS hL
  obtain ⟨ws, hP, hD, hw⟩ := hR
  have h0 : gK S a ≠ 0 := by rw [hκ]; omega
  obtain ⟨q0, he⟩ := hw.2 a h0
  rw [gEnt_l hκ ht] at he
  refine va_lald hx hb hK hP q0 2 he (gT_i (t := 18) (by omega) (by omega)) (i := nI i) (nI_in2 hi hi31) d ?_
  rw [nI_clamp hi31, hv]
  exact kk H locs ls ⟨ws, hP, hD, hw⟩ hS hL
theorem g_aald (G : gOK Γ own cc n mc ms) {a κ i : Nat} {v : Option Nat} (hκ : gK S a = κ) (ht : κ % 32 = 19 ∨ κ % 32 = 20) (hi : i < gL S a) (hi31 : i < 2 ^ 31) (hv : gY S κ a i = v) (d : decode cc pc = .ok (.aaload, 1)) (kk : gW Γ (pc + 1) lo (va_rf v :: st) S k sl) : gW Γ pc lo (.int (nI i) :: .ref a :: st) S k sl := by
  obtain ⟨p, l, e1, R, s, m, args, below, meth, c, Q, A, D, cT, d0⟩ := Γ
  obtain ⟨hx, hb, hown, hts, hK, hA, hV, hRf, hRl, hRc, hRs⟩ := G
  intro H locs ls hR hS hL
  obtain ⟨ws, hP, hD, hw⟩ := hR
  have h0 : gK S a ≠ 0 := by rw [hκ]; omega
  obtain ⟨q0, he⟩ := hw.2 a h0
  rw [gEnt_q hκ (by omega)] at he
  have hT := hK.2 _ _ (gT_i (cT := cT) (t := κ % 32) (by omega) (by omega))
  have hr : (gTy (κ % 32)).isReference = true := by rcases ht with h | h <;> rw [h] <;> rfl
  have hc : (nI i).toNatClampNeg = i := nI_clamp hi31
  refine W.aald (v := va_rf v) (ty := gTy (κ % 32)) hx hb (hP q0 _ he) (hT.1 _ _) hr (fun q => by cases q) (by show ¬ (nI i < 0 ∨ (arrV _ _ _).slots.size ≤ _); rw [arrV_size]; exact nI_in2 hi hi31) (by show (arrV _ _ _).slots[_]? = _; rw [hc, arrV_read _ _ hi]; show some (va_rf (gY S κ a i)) = _; rw [hv]) rfl rfl d ?_
  exact kk H locs ls ⟨ws, hP, hD, hw⟩ hS hL
theorem g_iast (G : gOK Γ own cc n mc ms) {a κ i : Nat} {x z : Int32} (hκ : gK S a = κ) (ht : κ % 32 = 17) (hi : i < gL S a) (hi31 : i < 2 ^ 31) (hz : x = z) (d : decode cc pc = .ok (.iastore, 1)) (kk : gW Γ (pc + 1) lo st (sX S κ a i z) k sl) : gW Γ pc lo (.int x :: .int (nI i) :: .ref a :: st) S k sl := by
  obtain ⟨p, l, e1, R, s, m, args, below, meth, c, Q, A, D, cT, d0⟩ := Γ
  obtain ⟨hx, hb, hown, hts, hK, hA, hV, hRf, hRl, hRc, hRs⟩ := G
  intro H locs ls hR hS hL
  obtain ⟨ws, hP, hD, hw⟩ := hR
  have h0 : gK S a ≠ 0 := by rw [hκ]; omega
  obtain ⟨q0, he⟩ := hw.2 a h0
  rw [gEnt_i hκ (by omega), ht] at he
  refine va_iast hx hb hK hP hD hS q0 1 he (gT_i (t := 17) (by omega) (by omega)) (i := nI i) (nI_in2 hi hi31) d (fun H1 locs1 hP1 hD1 hS1 => kk H1 locs1 ls ⟨_, hP1, hD1, ?_⟩ hS1 hL)
  have h9 := hw.put (T := sX S κ a i z) hD he rfl (gEnt_aX (by omega))
  rw [gEnt_i (S := sX S κ a i z) hκ (by omega), ht] at h9
  rw [nI_clamp hi31, hz]
  rw [show gX (sX S κ a i z) κ a = upd (gX S κ a) i z from u3_row _ _ _ _ _] at h9
  exact h9
theorem g_bast (G : gOK Γ own cc n mc ms) {a κ i : Nat} {x z : Int32} (hκ : gK S a = κ) (ht : κ % 32 = 16) (hi : i < gL S a) (hi31 : i < 2 ^ 31) (hz : vp_nar .byte x = z) (d : decode cc pc = .ok (.bastore, 1)) (kk : gW Γ (pc + 1) lo st (sX S κ a i z) k sl) : gW Γ pc lo (.int x :: .int (nI i) :: .ref a :: st) S k sl := by
  obtain ⟨p, l, e1, R, s, m, args, below, meth, c, Q, A, D, cT, d0⟩ := Γ
  obtain ⟨hx, hb, hown, hts, hK, hA, hV, hRf, hRl, hRc, hRs⟩ := G
  intro H locs ls hR hS hL
  obtain ⟨ws, hP, hD, hw⟩ := hR
  have h0 : gK S a ≠ 0 := by rw [hκ]; omega
  obtain ⟨q0, he⟩ := hw.2 a h0
  rw [gEnt_i hκ (by omega), ht] at he
  refine va_bast hx hb hK hP hD hS q0 0 he (gT_i (t := 16) (by omega) (by omega)) (i := nI i) (nI_in2 hi hi31) d (fun H1 locs1 hP1 hD1 hS1 => kk H1 locs1 ls ⟨_, hP1, hD1, ?_⟩ hS1 hL)
  have h9 := hw.put (T := sX S κ a i z) hD he rfl (gEnt_aX (by omega))
  rw [gEnt_i (S := sX S κ a i z) hκ (by omega), ht] at h9
  rw [nI_clamp hi31, hz]
  rw [show gX (sX S κ a i z) κ a = upd (gX S κ a) i z from u3_row _ _ _ _ _] at h9
  exact h9
theorem g_last (G : gOK Γ own cc n mc ms) {a κ i : Nat} {x : Int64} (hκ : gK S a = κ) (ht : κ % 32 = 18) (hi : i < gL S a) (hi31 : i < 2 ^ 31) (d : decode cc pc = .ok (.lastore, 1)) (kk : gW Γ (pc + 1) lo st (sZ S κ a i x) k sl) : gW Γ pc lo (.long x :: .int (nI i) :: .ref a :: st) S k sl := by
  obtain ⟨p, l, e1, R, s, m, args, below, meth, c, Q, A, D, cT, d0⟩ := Γ
  obtain ⟨hx, hb, hown, hts, hK, hA, hV, hRf, hRl, hRc, hRs⟩ := G
  intro H locs ls hR hS hL
  obtain ⟨ws, hP, hD, hw⟩ := hR
  have h0 : gK S a ≠ 0 := by rw [hκ]; omega
  obtain ⟨q0, he⟩ := hw.2 a h0
  rw [gEnt_l hκ ht] at he
  refine va_last hx hb hK hP hD hS q0 2 he (gT_i (t := 18) (by omega) (by omega)) (i := nI i) (nI_in2 hi hi31) d (fun H1 locs1 hP1 hD1 hS1 => kk H1 locs1 ls ⟨_, hP1, hD1, ?_⟩ hS1 hL)
  have h9 := hw.put (T := sZ S κ a i x) hD he rfl gEnt_aZ
  rw [gEnt_l (S := sZ S κ a i x) hκ ht] at h9
  rw [nI_clamp hi31]
  rw [show gZ (sZ S κ a i x) κ a = vp_updL (gZ S κ a) i x from u3_row _ _ _ _ _] at h9
  exact h9
end GHEAP
end
