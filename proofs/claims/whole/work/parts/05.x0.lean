/-! ===== facts of the tables, one a row (written by program) ===== -/
theorem g_t (i : Nat) {w : Cond} (h : tables_1[i]? = some w) (hg : goodWord w = true) : w ∈ gWords := List.mem_filter.mpr ⟨List.mem_append_right _ (List.mem_of_getElem? h), hg⟩
theorem g_u (i : Nat) {w : Cond} (h : tables_1[i]? = some w) : w ∈ tables_1 := List.mem_of_getElem? h
theorem gAtS {L : List Cond} (h : L.all (fun w => decide (w ∈ lw_tbl) && (goodWord w || (gNW w && decide (w ∈ tables_1)))) = true) : ∀ w ∈ L, w ∈ gWords ∨ (w ∈ tables_1 ∧ gNW w = true) := fun w hw => by
  have h1 := List.all_eq_true.mp h w hw
  simp only [Bool.and_eq_true, Bool.or_eq_true, decide_eq_true_eq] at h1
  rcases h1.2 with h2 | h2
  · exact Or.inl (List.mem_filter.mpr ⟨h1.1, h2⟩)
  · exact Or.inr ⟨h2.2, h2.1⟩
theorem g_p (i : Nat) {q : MethodName × Nat} (h : lw_privs[i]? = some q) (hg : goodWord (Cond.selects q.1.cls q.1 q.1) = true) : Cond.selects q.1.cls q.1 q.1 ∈ gWords := List.mem_filter.mpr ⟨List.mem_append_left _ (List.mem_map.mpr ⟨q, List.mem_of_getElem? h, rfl⟩), hg⟩
theorem gin_0 : ∀ w ∈ u_ws RJx4a65c TJx4a65c 3, w ∈ gWords := by
  show ∀ w ∈ [Cond.lays "java/util/ArrayList" "java/util/AbstractList" "modCount" "I", Cond.lays "java/util/ArrayList" "java/util/ArrayList" "elementData" "[Ljava/lang/Object;", Cond.lays "java/util/ArrayList" "java/util/ArrayList" "size" "I"], w ∈ gWords
  exact List.forall_mem_cons.mpr ⟨g_t 58 (by decide +kernel) (by decide +kernel), List.forall_mem_cons.mpr ⟨g_t 54 (by decide +kernel) (by decide +kernel), List.forall_mem_cons.mpr ⟨g_t 56 (by decide +kernel) (by decide +kernel), fun _ h => nomatch h⟩⟩⟩
theorem gin_1 : ∀ w ∈ u_ws RX0 TX0 2, w ∈ gWords := by
  show ∀ w ∈ [Cond.laysFinal "CourtMail$Case" "CourtMail$Case" "number" "I", Cond.lays "CourtMail$Case" "CourtMail$Case" "seal" "I"], w ∈ gWords
  exact List.forall_mem_cons.mpr ⟨g_t 684 (by decide +kernel) (by decide +kernel), List.forall_mem_cons.mpr ⟨g_t 686 (by decide +kernel) (by decide +kernel), fun _ h => nomatch h⟩⟩
theorem gin_2 : ∀ w ∈ u_ws RX1 TX1 8, w ∈ gWords := by
  show ∀ w ∈ [Cond.laysFinal "CourtMail$Document" "CourtMail$Document" "ofCase" "LCourtMail$Case;", Cond.laysFinal "CourtMail$Document" "CourtMail$Document" "text" "[B", Cond.laysFinal "CourtMail$Document" "CourtMail$Document" "levels" "[B", Cond.laysFinal "CourtMail$Document" "CourtMail$Document" "marks" "[B", Cond.laysFinal "CourtMail$Document" "CourtMail$Document" "exhibits" "I", Cond.lays "CourtMail$Document" "CourtMail$Document" "holder" "LCourtMail$Person;", Cond.lays "CourtMail$Document" "CourtMail$Document" "backBy" "I", Cond.lays "CourtMail$Document" "CourtMail$Document" "log" "I"], w ∈ gWords
  exact List.forall_mem_cons.mpr ⟨g_t 562 (by decide +kernel) (by decide +kernel), List.forall_mem_cons.mpr ⟨g_t 564 (by decide +kernel) (by decide +kernel), List.forall_mem_cons.mpr ⟨g_t 566 (by decide +kernel) (by decide +kernel), List.forall_mem_cons.mpr ⟨g_t 568 (by decide +kernel) (by decide +kernel), List.forall_mem_cons.mpr ⟨g_t 570 (by decide +kernel) (by decide +kernel), List.forall_mem_cons.mpr ⟨g_t 572 (by decide +kernel) (by decide +kernel), List.forall_mem_cons.mpr ⟨g_t 574 (by decide +kernel) (by decide +kernel), List.forall_mem_cons.mpr ⟨g_t 576 (by decide +kernel) (by decide +kernel), fun _ h => nomatch h⟩⟩⟩⟩⟩⟩⟩⟩
theorem gin_3 : ∀ w ∈ u_ws RX2 TX2 14, w ∈ gWords := by
  show ∀ w ∈ [Cond.laysFinal "CourtMail$Draft" "CourtMail$Draft" "text" "[B", Cond.laysFinal "CourtMail$Draft" "CourtMail$Draft" "levels" "[B", Cond.laysFinal "CourtMail$Draft" "CourtMail$Draft" "marks" "[B", Cond.lays "CourtMail$Draft" "CourtMail$Draft" "length" "I", Cond.lays "CourtMail$Draft" "CourtMail$Draft" "exhibits" "I", Cond.lays "CourtMail$Draft" "CourtMail$Draft" "errorPlace" "I", Cond.laysFinal "CourtMail$Draft" "CourtMail$Draft" "veils" "[I", Cond.lays "CourtMail$Draft" "CourtMail$Draft" "depth" "I", Cond.lays "CourtMail$Draft" "CourtMail$Draft" "state" "I", Cond.lays "CourtMail$Draft" "CourtMail$Draft" "run" "I", Cond.lays "CourtMail$Draft" "CourtMail$Draft" "number" "I", Cond.lays "CourtMail$Draft" "CourtMail$Draft" "numberAt" "I", Cond.lays "CourtMail$Draft" "CourtMail$Draft" "ownExhibits" "I", Cond.lays "CourtMail$Draft" "CourtMail$Draft" "foreignAt" "I"], w ∈ gWords
  exact List.forall_mem_cons.mpr ⟨g_t 87 (by decide +kernel) (by decide +kernel), List.forall_mem_cons.mpr ⟨g_t 89 (by decide +kernel) (by decide +kernel), List.forall_mem_cons.mpr ⟨g_t 91 (by decide +kernel) (by decide +kernel), List.forall_mem_cons.mpr ⟨g_t 93 (by decide +kernel) (by decide +kernel), List.forall_mem_cons.mpr ⟨g_t 95 (by decide +kernel) (by decide +kernel), List.forall_mem_cons.mpr ⟨g_t 97 (by decide +kernel) (by decide +kernel), List.forall_mem_cons.mpr ⟨g_t 99 (by decide +kernel) (by decide +kernel), List.forall_mem_cons.mpr ⟨g_t 101 (by decide +kernel) (by decide +kernel), List.forall_mem_cons.mpr ⟨g_t 103 (by decide +kernel) (by decide +kernel), List.forall_mem_cons.mpr ⟨g_t 105 (by decide +kernel) (by decide +kernel), List.forall_mem_cons.mpr ⟨g_t 107 (by decide +kernel) (by decide +kernel), List.forall_mem_cons.mpr ⟨g_t 109 (by decide +kernel) (by decide +kernel), List.forall_mem_cons.mpr ⟨g_t 111 (by decide +kernel) (by decide +kernel), List.forall_mem_cons.mpr ⟨g_t 113 (by decide +kernel) (by decide +kernel), fun _ h => nomatch h⟩⟩⟩⟩⟩⟩⟩⟩⟩⟩⟩⟩⟩⟩
theorem gin_4 : ∀ w ∈ u_ws RX3 TX3 6, w ∈ gWords := by
  show ∀ w ∈ [Cond.laysFinal "CourtMail$Exhibit" "CourtMail$Exhibit" "number" "I", Cond.laysFinal "CourtMail$Exhibit" "CourtMail$Exhibit" "ofCase" "LCourtMail$Case;", Cond.lays "CourtMail$Exhibit" "CourtMail$Exhibit" "holder" "LCourtMail$Person;", Cond.lays "CourtMail$Exhibit" "CourtMail$Exhibit" "lost" "Z", Cond.lays "CourtMail$Exhibit" "CourtMail$Exhibit" "sealNumber" "I", Cond.laysFinal "CourtMail$Exhibit" "CourtMail$Exhibit" "chain" "Ljava/util/ArrayList;"], w ∈ gWords
  exact List.forall_mem_cons.mpr ⟨g_t 886 (by decide +kernel) (by decide +kernel), List.forall_mem_cons.mpr ⟨g_t 888 (by decide +kernel) (by decide +kernel), List.forall_mem_cons.mpr ⟨g_t 890 (by decide +kernel) (by decide +kernel), List.forall_mem_cons.mpr ⟨g_t 892 (by decide +kernel) (by decide +kernel), List.forall_mem_cons.mpr ⟨g_t 894 (by decide +kernel) (by decide +kernel), List.forall_mem_cons.mpr ⟨g_t 896 (by decide +kernel) (by decide +kernel), fun _ h => nomatch h⟩⟩⟩⟩⟩⟩
theorem gin_5 : ∀ w ∈ u_ws RX4 TX4 6, w ∈ gWords := by
  show ∀ w ∈ [Cond.laysFinal "CourtMail$Letter" "CourtMail$Letter" "document" "LCourtMail$Document;", Cond.laysFinal "CourtMail$Letter" "CourtMail$Letter" "documentNumber" "I", Cond.laysFinal "CourtMail$Letter" "CourtMail$Letter" "person" "LCourtMail$Person;", Cond.laysFinal "CourtMail$Letter" "CourtMail$Letter" "due" "I", Cond.lays "CourtMail$Letter" "CourtMail$Letter" "state" "I", Cond.lays "CourtMail$Letter" "CourtMail$Letter" "carriedOn" "I"], w ∈ gWords
  exact List.forall_mem_cons.mpr ⟨g_t 1012 (by decide +kernel) (by decide +kernel), List.forall_mem_cons.mpr ⟨g_t 1014 (by decide +kernel) (by decide +kernel), List.forall_mem_cons.mpr ⟨g_t 1016 (by decide +kernel) (by decide +kernel), List.forall_mem_cons.mpr ⟨g_t 1018 (by decide +kernel) (by decide +kernel), List.forall_mem_cons.mpr ⟨g_t 1020 (by decide +kernel) (by decide +kernel), List.forall_mem_cons.mpr ⟨g_t 1022 (by decide +kernel) (by decide +kernel), fun _ h => nomatch h⟩⟩⟩⟩⟩⟩
theorem gin_6 : ∀ w ∈ u_ws RX5 TX5 4, w ∈ gWords := by
  show ∀ w ∈ [Cond.laysFinal "CourtMail$Link" "CourtMail$Link" "day" "I", Cond.laysFinal "CourtMail$Link" "CourtMail$Link" "from" "LCourtMail$Person;", Cond.laysFinal "CourtMail$Link" "CourtMail$Link" "to" "LCourtMail$Person;", Cond.laysFinal "CourtMail$Link" "CourtMail$Link" "happened" "I"], w ∈ gWords
  exact List.forall_mem_cons.mpr ⟨g_t 931 (by decide +kernel) (by decide +kernel), List.forall_mem_cons.mpr ⟨g_t 933 (by decide +kernel) (by decide +kernel), List.forall_mem_cons.mpr ⟨g_t 935 (by decide +kernel) (by decide +kernel), List.forall_mem_cons.mpr ⟨g_t 937 (by decide +kernel) (by decide +kernel), fun _ h => nomatch h⟩⟩⟩⟩
theorem gin_7 : ∀ w ∈ u_ws RX6 TX6 5, w ∈ gWords := by
  show ∀ w ∈ [Cond.laysFinal "CourtMail$Person" "CourtMail$Person" "number" "I", Cond.laysFinal "CourtMail$Person" "CourtMail$Person" "role" "I", Cond.lays "CourtMail$Person" "CourtMail$Person" "clearance" "I", Cond.lays "CourtMail$Person" "CourtMail$Person" "attached" "I", Cond.lays "CourtMail$Person" "CourtMail$Person" "warnings" "I"], w ∈ gWords
  exact List.forall_mem_cons.mpr ⟨g_t 723 (by decide +kernel) (by decide +kernel), List.forall_mem_cons.mpr ⟨g_t 725 (by decide +kernel) (by decide +kernel), List.forall_mem_cons.mpr ⟨g_t 727 (by decide +kernel) (by decide +kernel), List.forall_mem_cons.mpr ⟨g_t 729 (by decide +kernel) (by decide +kernel), List.forall_mem_cons.mpr ⟨g_t 731 (by decide +kernel) (by decide +kernel), fun _ h => nomatch h⟩⟩⟩⟩⟩
theorem gin_8 : ∀ w ∈ u_ws RX7 TX7 12, w ∈ gWords := by
  show ∀ w ∈ [Cond.laysFinal "CourtMail" "CourtMail" "cases" "Ljava/util/ArrayList;", Cond.laysFinal "CourtMail" "CourtMail" "people" "Ljava/util/ArrayList;", Cond.laysFinal "CourtMail" "CourtMail" "documents" "Ljava/util/ArrayList;", Cond.laysFinal "CourtMail" "CourtMail" "exhibits" "Ljava/util/ArrayList;", Cond.laysFinal "CourtMail" "CourtMail" "letters" "Ljava/util/ArrayList;", Cond.laysFinal "CourtMail" "CourtMail" "tape" "[I", Cond.lays "CourtMail" "CourtMail" "tapeLength" "I", Cond.laysFinal "CourtMail" "CourtMail" "paper" "[I", Cond.lays "CourtMail" "CourtMail" "paperLength" "I", Cond.laysFinal "CourtMail" "CourtMail" "draft" "LCourtMail$Draft;", Cond.lays "CourtMail" "CourtMail" "errorPlace" "I", Cond.lays "CourtMail" "CourtMail" "day" "I"], w ∈ gWords
  exact List.forall_mem_cons.mpr ⟨g_t 130 (by decide +kernel) (by decide +kernel), List.forall_mem_cons.mpr ⟨g_t 132 (by decide +kernel) (by decide +kernel), List.forall_mem_cons.mpr ⟨g_t 134 (by decide +kernel) (by decide +kernel), List.forall_mem_cons.mpr ⟨g_t 136 (by decide +kernel) (by decide +kernel), List.forall_mem_cons.mpr ⟨g_t 138 (by decide +kernel) (by decide +kernel), List.forall_mem_cons.mpr ⟨g_t 140 (by decide +kernel) (by decide +kernel), List.forall_mem_cons.mpr ⟨g_t 142 (by decide +kernel) (by decide +kernel), List.forall_mem_cons.mpr ⟨g_t 144 (by decide +kernel) (by decide +kernel), List.forall_mem_cons.mpr ⟨g_t 146 (by decide +kernel) (by decide +kernel), List.forall_mem_cons.mpr ⟨g_t 148 (by decide +kernel) (by decide +kernel), List.forall_mem_cons.mpr ⟨g_t 150 (by decide +kernel) (by decide +kernel), List.forall_mem_cons.mpr ⟨g_t 152 (by decide +kernel) (by decide +kernel), fun _ h => nomatch h⟩⟩⟩⟩⟩⟩⟩⟩⟩⟩⟩⟩
theorem gin_9 : ∀ w ∈ u_ws RX8 TX8 9, w ∈ gWords := by
  show ∀ w ∈ [Cond.lays "CourtMailModel$State" "CourtMailModel$State" "day" "I", Cond.laysFinal "CourtMailModel$State" "CourtMailModel$State" "clearance" "[I", Cond.laysFinal "CourtMailModel$State" "CourtMailModel$State" "warned" "[I", Cond.laysFinal "CourtMailModel$State" "CourtMailModel$State" "lent" "[I", Cond.laysFinal "CourtMailModel$State" "CourtMailModel$State" "until" "[I", Cond.laysFinal "CourtMailModel$State" "CourtMailModel$State" "log" "[I", Cond.laysFinal "CourtMailModel$State" "CourtMailModel$State" "done" "[I", Cond.laysFinal "CourtMailModel$State" "CourtMailModel$State" "when" "[I", Cond.laysFinal "CourtMailModel$State" "CourtMailModel$State" "this$0" "LCourtMailModel;"], w ∈ gWords
  exact List.forall_mem_cons.mpr ⟨g_t 1138 (by decide +kernel) (by decide +kernel), List.forall_mem_cons.mpr ⟨g_t 1140 (by decide +kernel) (by decide +kernel), List.forall_mem_cons.mpr ⟨g_t 1142 (by decide +kernel) (by decide +kernel), List.forall_mem_cons.mpr ⟨g_t 1144 (by decide +kernel) (by decide +kernel), List.forall_mem_cons.mpr ⟨g_t 1146 (by decide +kernel) (by decide +kernel), List.forall_mem_cons.mpr ⟨g_t 1148 (by decide +kernel) (by decide +kernel), List.forall_mem_cons.mpr ⟨g_t 1150 (by decide +kernel) (by decide +kernel), List.forall_mem_cons.mpr ⟨g_t 1152 (by decide +kernel) (by decide +kernel), List.forall_mem_cons.mpr ⟨g_t 1154 (by decide +kernel) (by decide +kernel), fun _ h => nomatch h⟩⟩⟩⟩⟩⟩⟩⟩⟩
theorem gin_10 : ∀ w ∈ u_ws RX9 TX9 35, w ∈ gWords := by
  show ∀ w ∈ [Cond.lays "CourtMailModel" "CourtMailModel" "thrown" "I", Cond.laysFinal "CourtMailModel" "CourtMailModel" "tape" "[I", Cond.lays "CourtMailModel" "CourtMailModel" "taped" "I", Cond.lays "CourtMailModel" "CourtMailModel" "wrong" "I", Cond.laysFinal "CourtMailModel" "CourtMailModel" "paper" "[I", Cond.lays "CourtMailModel" "CourtMailModel" "papered" "I", Cond.lays "CourtMailModel" "CourtMailModel" "cases" "I", Cond.laysFinal "CourtMailModel" "CourtMailModel" "sealed" "[I", Cond.lays "CourtMailModel" "CourtMailModel" "people" "I", Cond.laysFinal "CourtMailModel" "CourtMailModel" "role" "[I", Cond.laysFinal "CourtMailModel" "CourtMailModel" "attached" "[I", Cond.lays "CourtMailModel" "CourtMailModel" "documents" "I", Cond.laysFinal "CourtMailModel" "CourtMailModel" "caseOf" "[I", Cond.laysFinal "CourtMailModel" "CourtMailModel" "text" "[[I", Cond.laysFinal "CourtMailModel" "CourtMailModel" "level" "[[I", Cond.laysFinal "CourtMailModel" "CourtMailModel" "mark" "[[I", Cond.laysFinal "CourtMailModel" "CourtMailModel" "marks" "[I", Cond.lays "CourtMailModel" "CourtMailModel" "exhibits" "I", Cond.laysFinal "CourtMailModel" "CourtMailModel" "exhibitCase" "[I", Cond.laysFinal "CourtMailModel" "CourtMailModel" "has" "[I", Cond.laysFinal "CourtMailModel" "CourtMailModel" "number" "[I", Cond.laysFinal "CourtMailModel" "CourtMailModel" "links" "[I", Cond.laysFinal "CourtMailModel" "CourtMailModel" "chain" "[I", Cond.lays "CourtMailModel" "CourtMailModel" "letters" "I", Cond.laysFinal "CourtMailModel" "CourtMailModel" "copyOf" "[I", Cond.laysFinal "CourtMailModel" "CourtMailModel" "sentTo" "[I", Cond.laysFinal "CourtMailModel" "CourtMailModel" "due" "[I", Cond.laysFinal "CourtMailModel" "CourtMailModel" "s" "LCourtMailModel$State;", Cond.laysFinal "CourtMailModel" "CourtMailModel" "ahead" "LCourtMailModel$State;", Cond.laysFinal "CourtMailModel" "CourtMailModel" "letter" "[I", Cond.laysFinal "CourtMailModel" "CourtMailModel" "height" "[I", Cond.laysFinal "CourtMailModel" "CourtMailModel" "star" "[I", Cond.lays "CourtMailModel" "CourtMailModel" "written" "I", Cond.lays "CourtMailModel" "CourtMailModel" "foreign" "I", Cond.lays "CourtMailModel" "CourtMailModel" "marked" "I"], w ∈ gWords
  exact List.forall_mem_cons.mpr ⟨g_t 1201 (by decide +kernel) (by decide +kernel), List.forall_mem_cons.mpr ⟨g_t 1203 (by decide +kernel) (by decide +kernel), List.forall_mem_cons.mpr ⟨g_t 1205 (by decide +kernel) (by decide +kernel), List.forall_mem_cons.mpr ⟨g_t 1207 (by decide +kernel) (by decide +kernel), List.forall_mem_cons.mpr ⟨g_t 1209 (by decide +kernel) (by decide +kernel), List.forall_mem_cons.mpr ⟨g_t 1211 (by decide +kernel) (by decide +kernel), List.forall_mem_cons.mpr ⟨g_t 1213 (by decide +kernel) (by decide +kernel), List.forall_mem_cons.mpr ⟨g_t 1215 (by decide +kernel) (by decide +kernel), List.forall_mem_cons.mpr ⟨g_t 1217 (by decide +kernel) (by decide +kernel), List.forall_mem_cons.mpr ⟨g_t 1219 (by decide +kernel) (by decide +kernel), List.forall_mem_cons.mpr ⟨g_t 1221 (by decide +kernel) (by decide +kernel), List.forall_mem_cons.mpr ⟨g_t 1223 (by decide +kernel) (by decide +kernel), List.forall_mem_cons.mpr ⟨g_t 1225 (by decide +kernel) (by decide +kernel), List.forall_mem_cons.mpr ⟨g_t 1227 (by decide +kernel) (by decide +kernel), List.forall_mem_cons.mpr ⟨g_t 1229 (by decide +kernel) (by decide +kernel), List.forall_mem_cons.mpr ⟨g_t 1231 (by decide +kernel) (by decide +kernel), List.forall_mem_cons.mpr ⟨g_t 1233 (by decide +kernel) (by decide +kernel), List.forall_mem_cons.mpr ⟨g_t 1235 (by decide +kernel) (by decide +kernel), List.forall_mem_cons.mpr ⟨g_t 1237 (by decide +kernel) (by decide +kernel), List.forall_mem_cons.mpr ⟨g_t 1239 (by decide +kernel) (by decide +kernel), List.forall_mem_cons.mpr ⟨g_t 1241 (by decide +kernel) (by decide +kernel), List.forall_mem_cons.mpr ⟨g_t 1243 (by decide +kernel) (by decide +kernel), List.forall_mem_cons.mpr ⟨g_t 1245 (by decide +kernel) (by decide +kernel), List.forall_mem_cons.mpr ⟨g_t 1247 (by decide +kernel) (by decide +kernel), List.forall_mem_cons.mpr ⟨g_t 1249 (by decide +kernel) (by decide +kernel), List.forall_mem_cons.mpr ⟨g_t 1251 (by decide +kernel) (by decide +kernel), List.forall_mem_cons.mpr ⟨g_t 1253 (by decide +kernel) (by decide +kernel), List.forall_mem_cons.mpr ⟨g_t 1255 (by decide +kernel) (by decide +kernel), List.forall_mem_cons.mpr ⟨g_t 1257 (by decide +kernel) (by decide +kernel), List.forall_mem_cons.mpr ⟨g_t 1259 (by decide +kernel) (by decide +kernel), List.forall_mem_cons.mpr ⟨g_t 1261 (by decide +kernel) (by decide +kernel), List.forall_mem_cons.mpr ⟨g_t 1263 (by decide +kernel) (by decide +kernel), List.forall_mem_cons.mpr ⟨g_t 1265 (by decide +kernel) (by decide +kernel), List.forall_mem_cons.mpr ⟨g_t 1267 (by decide +kernel) (by decide +kernel), List.forall_mem_cons.mpr ⟨g_t 1269 (by decide +kernel) (by decide +kernel), fun _ h => nomatch h⟩⟩⟩⟩⟩⟩⟩⟩⟩⟩⟩⟩⟩⟩⟩⟩⟩⟩⟩⟩⟩⟩⟩⟩⟩⟩⟩⟩⟩⟩⟩⟩⟩⟩⟩
theorem fl_Jx4a65c_9 : gFld RJx4a65c 9 0 1 := ⟨RJx4a65c, TJx4a65c, 3, "java/util/ArrayList", rfl, by decide, gin_0, g_t 49 (by decide +kernel) (by decide +kernel), Or.inl rfl⟩
theorem fl_Jx4a65c_48 : gFld RJx4a65c 48 0 2 := ⟨RJx4a65c, TJx4a65c, 3, "java/util/ArrayList", rfl, by decide, gin_0, g_t 50 (by decide +kernel) (by decide +kernel), Or.inl rfl⟩
theorem fl_Jx4a65c_63 : gFld RJx4a65c 63 0 0 := ⟨RJx4a65c, TJx4a65c, 3, "java/util/ArrayList", rfl, by decide, gin_0, g_t 52 (by decide +kernel) (by decide +kernel), Or.inr (g_t 53 (by decide +kernel) (by decide +kernel))⟩
theorem fl_X2_9 : gFld RX2 9 3 0 := ⟨RX2, TX2, 14, "CourtMail$Draft", rfl, by decide, gin_3, g_t 67 (by decide +kernel) (by decide +kernel), Or.inl rfl⟩
theorem fl_X1_26 : gFld RX1 26 3 0 := ⟨RX2, TX2, 14, "CourtMail$Draft", rfl, by decide, gin_3, g_t 68 (by decide +kernel) (by decide +kernel), Or.inl rfl⟩
theorem fl_X2_15 : gFld RX2 15 3 1 := ⟨RX2, TX2, 14, "CourtMail$Draft", rfl, by decide, gin_3, g_t 69 (by decide +kernel) (by decide +kernel), Or.inl rfl⟩
theorem fl_X1_40 : gFld RX1 40 3 1 := ⟨RX2, TX2, 14, "CourtMail$Draft", rfl, by decide, gin_3, g_t 70 (by decide +kernel) (by decide +kernel), Or.inl rfl⟩
theorem fl_X2_18 : gFld RX2 18 3 2 := ⟨RX2, TX2, 14, "CourtMail$Draft", rfl, by decide, gin_3, g_t 71 (by decide +kernel) (by decide +kernel), Or.inl rfl⟩
theorem fl_X1_44 : gFld RX1 44 3 2 := ⟨RX2, TX2, 14, "CourtMail$Draft", rfl, by decide, gin_3, g_t 72 (by decide +kernel) (by decide +kernel), Or.inl rfl⟩
theorem fl_X1_32 : gFld RX1 32 3 3 := ⟨RX2, TX2, 14, "CourtMail$Draft", rfl, by decide, gin_3, g_t 73 (by decide +kernel) (by decide +kernel), Or.inl rfl⟩
theorem fl_X2_50 : gFld RX2 50 3 3 := ⟨RX2, TX2, 14, "CourtMail$Draft", rfl, by decide, gin_3, g_t 74 (by decide +kernel) (by decide +kernel), Or.inl rfl⟩
theorem fl_X1_48 : gFld RX1 48 3 4 := ⟨RX2, TX2, 14, "CourtMail$Draft", rfl, by decide, gin_3, g_t 75 (by decide +kernel) (by decide +kernel), Or.inl rfl⟩
theorem fl_X2_53 : gFld RX2 53 3 4 := ⟨RX2, TX2, 14, "CourtMail$Draft", rfl, by decide, gin_3, g_t 76 (by decide +kernel) (by decide +kernel), Or.inl rfl⟩
theorem fl_X2_33 : gFld RX2 33 3 5 := ⟨RX2, TX2, 14, "CourtMail$Draft", rfl, by decide, gin_3, g_t 77 (by decide +kernel) (by decide +kernel), Or.inl rfl⟩
theorem fl_X7_94 : gFld RX7 94 3 5 := ⟨RX2, TX2, 14, "CourtMail$Draft", rfl, by decide, gin_3, g_t 78 (by decide +kernel) (by decide +kernel), Or.inl rfl⟩
theorem fl_X2_21 : gFld RX2 21 3 6 := ⟨RX2, TX2, 14, "CourtMail$Draft", rfl, by decide, gin_3, g_t 79 (by decide +kernel) (by decide +kernel), Or.inl rfl⟩
theorem fl_X2_56 : gFld RX2 56 3 7 := ⟨RX2, TX2, 14, "CourtMail$Draft", rfl, by decide, gin_3, g_t 80 (by decide +kernel) (by decide +kernel), Or.inl rfl⟩
theorem fl_X2_41 : gFld RX2 41 3 8 := ⟨RX2, TX2, 14, "CourtMail$Draft", rfl, by decide, gin_3, g_t 81 (by decide +kernel) (by decide +kernel), Or.inl rfl⟩
theorem fl_X2_62 : gFld RX2 62 3 9 := ⟨RX2, TX2, 14, "CourtMail$Draft", rfl, by decide, gin_3, g_t 82 (by decide +kernel) (by decide +kernel), Or.inl rfl⟩
theorem fl_X2_81 : gFld RX2 81 3 10 := ⟨RX2, TX2, 14, "CourtMail$Draft", rfl, by decide, gin_3, g_t 83 (by decide +kernel) (by decide +kernel), Or.inl rfl⟩
theorem fl_X2_84 : gFld RX2 84 3 11 := ⟨RX2, TX2, 14, "CourtMail$Draft", rfl, by decide, gin_3, g_t 84 (by decide +kernel) (by decide +kernel), Or.inl rfl⟩
theorem fl_X2_59 : gFld RX2 59 3 12 := ⟨RX2, TX2, 14, "CourtMail$Draft", rfl, by decide, gin_3, g_t 85 (by decide +kernel) (by decide +kernel), Or.inl rfl⟩
theorem fl_X2_47 : gFld RX2 47 3 13 := ⟨RX2, TX2, 14, "CourtMail$Draft", rfl, by decide, gin_3, g_t 86 (by decide +kernel) (by decide +kernel), Or.inl rfl⟩
theorem fl_X7_12 : gFld RX7 12 8 0 := ⟨RX7, TX7, 12, "CourtMail", rfl, by decide, gin_8, g_t 118 (by decide +kernel) (by decide +kernel), Or.inl rfl⟩
theorem fl_X7_16 : gFld RX7 16 8 1 := ⟨RX7, TX7, 12, "CourtMail", rfl, by decide, gin_8, g_t 119 (by decide +kernel) (by decide +kernel), Or.inl rfl⟩
theorem fl_X7_19 : gFld RX7 19 8 2 := ⟨RX7, TX7, 12, "CourtMail", rfl, by decide, gin_8, g_t 120 (by decide +kernel) (by decide +kernel), Or.inl rfl⟩
theorem fl_X7_22 : gFld RX7 22 8 3 := ⟨RX7, TX7, 12, "CourtMail", rfl, by decide, gin_8, g_t 121 (by decide +kernel) (by decide +kernel), Or.inl rfl⟩
theorem fl_X7_25 : gFld RX7 25 8 4 := ⟨RX7, TX7, 12, "CourtMail", rfl, by decide, gin_8, g_t 122 (by decide +kernel) (by decide +kernel), Or.inl rfl⟩
theorem fl_X7_28 : gFld RX7 28 8 5 := ⟨RX7, TX7, 12, "CourtMail", rfl, by decide, gin_8, g_t 123 (by decide +kernel) (by decide +kernel), Or.inl rfl⟩
theorem fl_X7_32 : gFld RX7 32 8 6 := ⟨RX7, TX7, 12, "CourtMail", rfl, by decide, gin_8, g_t 124 (by decide +kernel) (by decide +kernel), Or.inl rfl⟩
theorem fl_X7_36 : gFld RX7 36 8 7 := ⟨RX7, TX7, 12, "CourtMail", rfl, by decide, gin_8, g_t 125 (by decide +kernel) (by decide +kernel), Or.inl rfl⟩
theorem fl_X7_39 : gFld RX7 39 8 8 := ⟨RX7, TX7, 12, "CourtMail", rfl, by decide, gin_8, g_t 126 (by decide +kernel) (by decide +kernel), Or.inl rfl⟩
theorem fl_X7_45 : gFld RX7 45 8 9 := ⟨RX7, TX7, 12, "CourtMail", rfl, by decide, gin_8, g_t 127 (by decide +kernel) (by decide +kernel), Or.inl rfl⟩
theorem fl_X7_49 : gFld RX7 49 8 10 := ⟨RX7, TX7, 12, "CourtMail", rfl, by decide, gin_8, g_t 128 (by decide +kernel) (by decide +kernel), Or.inl rfl⟩
theorem fl_X7_52 : gFld RX7 52 8 11 := ⟨RX7, TX7, 12, "CourtMail", rfl, by decide, gin_8, g_t 129 (by decide +kernel) (by decide +kernel), Or.inl rfl⟩
theorem fl_X1_22 : gFld RX1 22 2 0 := ⟨RX1, TX1, 8, "CourtMail$Document", rfl, by decide, gin_2, g_t 547 (by decide +kernel) (by decide +kernel), Or.inl rfl⟩
theorem fl_X7_181 : gFld RX7 181 2 0 := ⟨RX1, TX1, 8, "CourtMail$Document", rfl, by decide, gin_2, g_t 548 (by decide +kernel) (by decide +kernel), Or.inl rfl⟩
theorem fl_X1_39 : gFld RX1 39 2 1 := ⟨RX1, TX1, 8, "CourtMail$Document", rfl, by decide, gin_2, g_t 549 (by decide +kernel) (by decide +kernel), Or.inl rfl⟩
theorem fl_X7_202 : gFld RX7 202 2 1 := ⟨RX1, TX1, 8, "CourtMail$Document", rfl, by decide, gin_2, g_t 550 (by decide +kernel) (by decide +kernel), Or.inl rfl⟩
theorem fl_X1_43 : gFld RX1 43 2 2 := ⟨RX1, TX1, 8, "CourtMail$Document", rfl, by decide, gin_2, g_t 551 (by decide +kernel) (by decide +kernel), Or.inl rfl⟩
theorem fl_X7_499 : gFld RX7 499 2 2 := ⟨RX1, TX1, 8, "CourtMail$Document", rfl, by decide, gin_2, g_t 552 (by decide +kernel) (by decide +kernel), Or.inl rfl⟩
theorem fl_X1_47 : gFld RX1 47 2 3 := ⟨RX1, TX1, 8, "CourtMail$Document", rfl, by decide, gin_2, g_t 553 (by decide +kernel) (by decide +kernel), Or.inl rfl⟩
theorem fl_X1_51 : gFld RX1 51 2 4 := ⟨RX1, TX1, 8, "CourtMail$Document", rfl, by decide, gin_2, g_t 554 (by decide +kernel) (by decide +kernel), Or.inl rfl⟩
theorem fl_X7_483 : gFld RX7 483 2 4 := ⟨RX1, TX1, 8, "CourtMail$Document", rfl, by decide, gin_2, g_t 555 (by decide +kernel) (by decide +kernel), Or.inl rfl⟩
theorem fl_X1_9 : gFld RX1 9 2 5 := ⟨RX1, TX1, 8, "CourtMail$Document", rfl, by decide, gin_2, g_t 556 (by decide +kernel) (by decide +kernel), Or.inl rfl⟩
theorem fl_X7_223 : gFld RX7 223 2 5 := ⟨RX1, TX1, 8, "CourtMail$Document", rfl, by decide, gin_2, g_t 557 (by decide +kernel) (by decide +kernel), Or.inl rfl⟩
theorem fl_X1_15 : gFld RX1 15 2 6 := ⟨RX1, TX1, 8, "CourtMail$Document", rfl, by decide, gin_2, g_t 558 (by decide +kernel) (by decide +kernel), Or.inl rfl⟩
theorem fl_X7_229 : gFld RX7 229 2 6 := ⟨RX1, TX1, 8, "CourtMail$Document", rfl, by decide, gin_2, g_t 559 (by decide +kernel) (by decide +kernel), Or.inl rfl⟩
theorem fl_X1_19 : gFld RX1 19 2 7 := ⟨RX1, TX1, 8, "CourtMail$Document", rfl, by decide, gin_2, g_t 560 (by decide +kernel) (by decide +kernel), Or.inl rfl⟩
theorem fl_X7_473 : gFld RX7 473 2 7 := ⟨RX1, TX1, 8, "CourtMail$Document", rfl, by decide, gin_2, g_t 561 (by decide +kernel) (by decide +kernel), Or.inl rfl⟩
theorem fl_X0_7 : gFld RX0 7 1 0 := ⟨RX0, TX0, 2, "CourtMail$Case", rfl, by decide, gin_1, g_t 678 (by decide +kernel) (by decide +kernel), Or.inl rfl⟩
theorem fl_X6_27 : gFld RX6 27 1 0 := ⟨RX0, TX0, 2, "CourtMail$Case", rfl, by decide, gin_1, g_t 679 (by decide +kernel) (by decide +kernel), Or.inl rfl⟩
theorem fl_X7_160 : gFld RX7 160 1 0 := ⟨RX0, TX0, 2, "CourtMail$Case", rfl, by decide, gin_1, g_t 680 (by decide +kernel) (by decide +kernel), Or.inl rfl⟩
theorem fl_X0_13 : gFld RX0 13 1 1 := ⟨RX0, TX0, 2, "CourtMail$Case", rfl, by decide, gin_1, g_t 681 (by decide +kernel) (by decide +kernel), Or.inl rfl⟩
theorem fl_X6_47 : gFld RX6 47 1 1 := ⟨RX0, TX0, 2, "CourtMail$Case", rfl, by decide, gin_1, g_t 682 (by decide +kernel) (by decide +kernel), Or.inl rfl⟩
theorem fl_X7_139 : gFld RX7 139 1 1 := ⟨RX0, TX0, 2, "CourtMail$Case", rfl, by decide, gin_1, g_t 683 (by decide +kernel) (by decide +kernel), Or.inl rfl⟩
theorem fl_X6_18 : gFld RX6 18 7 0 := ⟨RX6, TX6, 5, "CourtMail$Person", rfl, by decide, gin_7, g_t 710 (by decide +kernel) (by decide +kernel), Or.inl rfl⟩
theorem fl_X1_69 : gFld RX1 69 7 0 := ⟨RX6, TX6, 5, "CourtMail$Person", rfl, by decide, gin_7, g_t 711 (by decide +kernel) (by decide +kernel), Or.inl rfl⟩
theorem fl_X7_397 : gFld RX7 397 7 0 := ⟨RX6, TX6, 5, "CourtMail$Person", rfl, by decide, gin_7, g_t 712 (by decide +kernel) (by decide +kernel), Or.inl rfl⟩
theorem fl_X6_21 : gFld RX6 21 7 1 := ⟨RX6, TX6, 5, "CourtMail$Person", rfl, by decide, gin_7, g_t 713 (by decide +kernel) (by decide +kernel), Or.inl rfl⟩
theorem fl_X5_25 : gFld RX5 25 7 1 := ⟨RX6, TX6, 5, "CourtMail$Person", rfl, by decide, gin_7, g_t 714 (by decide +kernel) (by decide +kernel), Or.inl rfl⟩
theorem fl_X3_54 : gFld RX3 54 7 1 := ⟨RX6, TX6, 5, "CourtMail$Person", rfl, by decide, gin_7, g_t 715 (by decide +kernel) (by decide +kernel), Or.inl rfl⟩
theorem fl_X7_367 : gFld RX7 367 7 1 := ⟨RX6, TX6, 5, "CourtMail$Person", rfl, by decide, gin_7, g_t 716 (by decide +kernel) (by decide +kernel), Or.inl rfl⟩
theorem fl_X6_24 : gFld RX6 24 7 2 := ⟨RX6, TX6, 5, "CourtMail$Person", rfl, by decide, gin_7, g_t 717 (by decide +kernel) (by decide +kernel), Or.inl rfl⟩
theorem fl_X7_423 : gFld RX7 423 7 2 := ⟨RX6, TX6, 5, "CourtMail$Person", rfl, by decide, gin_7, g_t 718 (by decide +kernel) (by decide +kernel), Or.inl rfl⟩
theorem fl_X6_9 : gFld RX6 9 7 3 := ⟨RX6, TX6, 5, "CourtMail$Person", rfl, by decide, gin_7, g_t 719 (by decide +kernel) (by decide +kernel), Or.inl rfl⟩
theorem fl_X7_157 : gFld RX7 157 7 3 := ⟨RX6, TX6, 5, "CourtMail$Person", rfl, by decide, gin_7, g_t 720 (by decide +kernel) (by decide +kernel), Or.inl rfl⟩
theorem fl_X6_15 : gFld RX6 15 7 4 := ⟨RX6, TX6, 5, "CourtMail$Person", rfl, by decide, gin_7, g_t 721 (by decide +kernel) (by decide +kernel), Or.inl rfl⟩
theorem fl_X7_420 : gFld RX7 420 7 4 := ⟨RX6, TX6, 5, "CourtMail$Person", rfl, by decide, gin_7, g_t 722 (by decide +kernel) (by decide +kernel), Or.inl rfl⟩
theorem fl_X3_26 : gFld RX3 26 4 0 := ⟨RX3, TX3, 6, "CourtMail$Exhibit", rfl, by decide, gin_4, g_t 874 (by decide +kernel) (by decide +kernel), Or.inl rfl⟩
theorem fl_X7_485 : gFld RX7 485 4 0 := ⟨RX3, TX3, 6, "CourtMail$Exhibit", rfl, by decide, gin_4, g_t 875 (by decide +kernel) (by decide +kernel), Or.inl rfl⟩
theorem fl_X3_30 : gFld RX3 30 4 1 := ⟨RX3, TX3, 6, "CourtMail$Exhibit", rfl, by decide, gin_4, g_t 876 (by decide +kernel) (by decide +kernel), Or.inl rfl⟩
theorem fl_X7_263 : gFld RX7 263 4 1 := ⟨RX3, TX3, 6, "CourtMail$Exhibit", rfl, by decide, gin_4, g_t 877 (by decide +kernel) (by decide +kernel), Or.inl rfl⟩
theorem fl_X3_9 : gFld RX3 9 4 2 := ⟨RX3, TX3, 6, "CourtMail$Exhibit", rfl, by decide, gin_4, g_t 878 (by decide +kernel) (by decide +kernel), Or.inl rfl⟩
theorem fl_X7_256 : gFld RX7 256 4 2 := ⟨RX3, TX3, 6, "CourtMail$Exhibit", rfl, by decide, gin_4, g_t 879 (by decide +kernel) (by decide +kernel), Or.inl rfl⟩
theorem fl_X3_15 : gFld RX3 15 4 3 := ⟨RX3, TX3, 6, "CourtMail$Exhibit", rfl, by decide, gin_4, g_t 880 (by decide +kernel) (by decide +kernel), Or.inl rfl⟩
theorem fl_X7_252 : gFld RX7 252 4 3 := ⟨RX3, TX3, 6, "CourtMail$Exhibit", rfl, by decide, gin_4, g_t 881 (by decide +kernel) (by decide +kernel), Or.inl rfl⟩
theorem fl_X3_34 : gFld RX3 34 4 4 := ⟨RX3, TX3, 6, "CourtMail$Exhibit", rfl, by decide, gin_4, g_t 882 (by decide +kernel) (by decide +kernel), Or.inl rfl⟩
theorem fl_X7_285 : gFld RX7 285 4 4 := ⟨RX3, TX3, 6, "CourtMail$Exhibit", rfl, by decide, gin_4, g_t 883 (by decide +kernel) (by decide +kernel), Or.inl rfl⟩
theorem fl_X3_22 : gFld RX3 22 4 5 := ⟨RX3, TX3, 6, "CourtMail$Exhibit", rfl, by decide, gin_4, g_t 884 (by decide +kernel) (by decide +kernel), Or.inl rfl⟩
theorem fl_X7_278 : gFld RX7 278 4 5 := ⟨RX3, TX3, 6, "CourtMail$Exhibit", rfl, by decide, gin_4, g_t 885 (by decide +kernel) (by decide +kernel), Or.inl rfl⟩
theorem fl_X5_9 : gFld RX5 9 6 0 := ⟨RX5, TX5, 4, "CourtMail$Link", rfl, by decide, gin_6, g_t 922 (by decide +kernel) (by decide +kernel), Or.inl rfl⟩
theorem fl_X7_486 : gFld RX7 486 6 0 := ⟨RX5, TX5, 4, "CourtMail$Link", rfl, by decide, gin_6, g_t 923 (by decide +kernel) (by decide +kernel), Or.inl rfl⟩
theorem fl_X5_15 : gFld RX5 15 6 1 := ⟨RX5, TX5, 4, "CourtMail$Link", rfl, by decide, gin_6, g_t 924 (by decide +kernel) (by decide +kernel), Or.inl rfl⟩
theorem fl_X7_487 : gFld RX7 487 6 1 := ⟨RX5, TX5, 4, "CourtMail$Link", rfl, by decide, gin_6, g_t 925 (by decide +kernel) (by decide +kernel), Or.inl rfl⟩
theorem fl_X5_19 : gFld RX5 19 6 2 := ⟨RX5, TX5, 4, "CourtMail$Link", rfl, by decide, gin_6, g_t 926 (by decide +kernel) (by decide +kernel), Or.inl rfl⟩
theorem fl_X7_490 : gFld RX7 490 6 2 := ⟨RX5, TX5, 4, "CourtMail$Link", rfl, by decide, gin_6, g_t 927 (by decide +kernel) (by decide +kernel), Or.inl rfl⟩
theorem fl_X5_22 : gFld RX5 22 6 3 := ⟨RX5, TX5, 4, "CourtMail$Link", rfl, by decide, gin_6, g_t 928 (by decide +kernel) (by decide +kernel), Or.inl rfl⟩
theorem fl_X3_51 : gFld RX3 51 6 3 := ⟨RX5, TX5, 4, "CourtMail$Link", rfl, by decide, gin_6, g_t 929 (by decide +kernel) (by decide +kernel), Or.inl rfl⟩
theorem fl_X7_493 : gFld RX7 493 6 3 := ⟨RX5, TX5, 4, "CourtMail$Link", rfl, by decide, gin_6, g_t 930 (by decide +kernel) (by decide +kernel), Or.inl rfl⟩
theorem fl_X4_18 : gFld RX4 18 5 0 := ⟨RX4, TX4, 6, "CourtMail$Letter", rfl, by decide, gin_5, g_t 1000 (by decide +kernel) (by decide +kernel), Or.inl rfl⟩
theorem fl_X7_347 : gFld RX7 347 5 0 := ⟨RX4, TX4, 6, "CourtMail$Letter", rfl, by decide, gin_5, g_t 1001 (by decide +kernel) (by decide +kernel), Or.inl rfl⟩
theorem fl_X4_22 : gFld RX4 22 5 1 := ⟨RX4, TX4, 6, "CourtMail$Letter", rfl, by decide, gin_5, g_t 1002 (by decide +kernel) (by decide +kernel), Or.inl rfl⟩
theorem fl_X7_496 : gFld RX7 496 5 1 := ⟨RX4, TX4, 6, "CourtMail$Letter", rfl, by decide, gin_5, g_t 1003 (by decide +kernel) (by decide +kernel), Or.inl rfl⟩
theorem fl_X4_25 : gFld RX4 25 5 2 := ⟨RX4, TX4, 6, "CourtMail$Letter", rfl, by decide, gin_5, g_t 1004 (by decide +kernel) (by decide +kernel), Or.inl rfl⟩
theorem fl_X7_351 : gFld RX7 351 5 2 := ⟨RX4, TX4, 6, "CourtMail$Letter", rfl, by decide, gin_5, g_t 1005 (by decide +kernel) (by decide +kernel), Or.inl rfl⟩
theorem fl_X4_29 : gFld RX4 29 5 3 := ⟨RX4, TX4, 6, "CourtMail$Letter", rfl, by decide, gin_5, g_t 1006 (by decide +kernel) (by decide +kernel), Or.inl rfl⟩
theorem fl_X7_411 : gFld RX7 411 5 3 := ⟨RX4, TX4, 6, "CourtMail$Letter", rfl, by decide, gin_5, g_t 1007 (by decide +kernel) (by decide +kernel), Or.inl rfl⟩
theorem fl_X4_9 : gFld RX4 9 5 4 := ⟨RX4, TX4, 6, "CourtMail$Letter", rfl, by decide, gin_5, g_t 1008 (by decide +kernel) (by decide +kernel), Or.inl rfl⟩
theorem fl_X7_337 : gFld RX7 337 5 4 := ⟨RX4, TX4, 6, "CourtMail$Letter", rfl, by decide, gin_5, g_t 1009 (by decide +kernel) (by decide +kernel), Or.inl rfl⟩
theorem fl_X4_15 : gFld RX4 15 5 5 := ⟨RX4, TX4, 6, "CourtMail$Letter", rfl, by decide, gin_5, g_t 1010 (by decide +kernel) (by decide +kernel), Or.inl rfl⟩
theorem fl_X7_414 : gFld RX7 414 5 5 := ⟨RX4, TX4, 6, "CourtMail$Letter", rfl, by decide, gin_5, g_t 1011 (by decide +kernel) (by decide +kernel), Or.inl rfl⟩
theorem fl_X8_43 : gFld RX8 43 9 0 := ⟨RX8, TX8, 9, "CourtMailModel$State", rfl, by decide, gin_9, g_t 1121 (by decide +kernel) (by decide +kernel), Or.inl rfl⟩
theorem fl_X8_15 : gFld RX8 15 9 1 := ⟨RX8, TX8, 9, "CourtMailModel$State", rfl, by decide, gin_9, g_t 1123 (by decide +kernel) (by decide +kernel), Or.inl rfl⟩
theorem fl_X8_19 : gFld RX8 19 9 2 := ⟨RX8, TX8, 9, "CourtMailModel$State", rfl, by decide, gin_9, g_t 1125 (by decide +kernel) (by decide +kernel), Or.inl rfl⟩
theorem fl_X8_22 : gFld RX8 22 9 3 := ⟨RX8, TX8, 9, "CourtMailModel$State", rfl, by decide, gin_9, g_t 1127 (by decide +kernel) (by decide +kernel), Or.inl rfl⟩
theorem fl_X8_25 : gFld RX8 25 9 4 := ⟨RX8, TX8, 9, "CourtMailModel$State", rfl, by decide, gin_9, g_t 1129 (by decide +kernel) (by decide +kernel), Or.inl rfl⟩
theorem fl_X8_28 : gFld RX8 28 9 5 := ⟨RX8, TX8, 9, "CourtMailModel$State", rfl, by decide, gin_9, g_t 1131 (by decide +kernel) (by decide +kernel), Or.inl rfl⟩
theorem fl_X8_31 : gFld RX8 31 9 6 := ⟨RX8, TX8, 9, "CourtMailModel$State", rfl, by decide, gin_9, g_t 1133 (by decide +kernel) (by decide +kernel), Or.inl rfl⟩
theorem fl_X8_34 : gFld RX8 34 9 7 := ⟨RX8, TX8, 9, "CourtMailModel$State", rfl, by decide, gin_9, g_t 1135 (by decide +kernel) (by decide +kernel), Or.inl rfl⟩
theorem fl_X8_3 : gFld RX8 3 9 8 := ⟨RX8, TX8, 9, "CourtMailModel$State", rfl, by decide, gin_9, g_t 1137 (by decide +kernel) (by decide +kernel), Or.inl rfl⟩
theorem fl_X9_91 : gFld RX9 91 10 0 := ⟨RX9, TX9, 35, "CourtMailModel", rfl, by decide, gin_10, g_t 1157 (by decide +kernel) (by decide +kernel), Or.inl rfl⟩
theorem fl_X9_9 : gFld RX9 9 10 1 := ⟨RX9, TX9, 35, "CourtMailModel", rfl, by decide, gin_10, g_t 1158 (by decide +kernel) (by decide +kernel), Or.inl rfl⟩
theorem fl_X9_110 : gFld RX9 110 10 2 := ⟨RX9, TX9, 35, "CourtMailModel", rfl, by decide, gin_10, g_t 1159 (by decide +kernel) (by decide +kernel), Or.inl rfl⟩
theorem fl_X9_13 : gFld RX9 13 10 3 := ⟨RX9, TX9, 35, "CourtMailModel", rfl, by decide, gin_10, g_t 1160 (by decide +kernel) (by decide +kernel), Or.inl rfl⟩
theorem fl_X9_17 : gFld RX9 17 10 4 := ⟨RX9, TX9, 35, "CourtMailModel", rfl, by decide, gin_10, g_t 1161 (by decide +kernel) (by decide +kernel), Or.inl rfl⟩
theorem fl_X9_210 : gFld RX9 210 10 5 := ⟨RX9, TX9, 35, "CourtMailModel", rfl, by decide, gin_10, g_t 1162 (by decide +kernel) (by decide +kernel), Or.inl rfl⟩
theorem fl_X9_94 : gFld RX9 94 10 6 := ⟨RX9, TX9, 35, "CourtMailModel", rfl, by decide, gin_10, g_t 1163 (by decide +kernel) (by decide +kernel), Or.inl rfl⟩
theorem fl_X9_20 : gFld RX9 20 10 7 := ⟨RX9, TX9, 35, "CourtMailModel", rfl, by decide, gin_10, g_t 1164 (by decide +kernel) (by decide +kernel), Or.inl rfl⟩
theorem fl_X9_101 : gFld RX9 101 10 8 := ⟨RX9, TX9, 35, "CourtMailModel", rfl, by decide, gin_10, g_t 1166 (by decide +kernel) (by decide +kernel), Or.inl rfl⟩
theorem fl_X9_23 : gFld RX9 23 10 9 := ⟨RX9, TX9, 35, "CourtMailModel", rfl, by decide, gin_10, g_t 1167 (by decide +kernel) (by decide +kernel), Or.inl rfl⟩
theorem fl_X9_26 : gFld RX9 26 10 10 := ⟨RX9, TX9, 35, "CourtMailModel", rfl, by decide, gin_10, g_t 1169 (by decide +kernel) (by decide +kernel), Or.inl rfl⟩
theorem fl_X9_104 : gFld RX9 104 10 11 := ⟨RX9, TX9, 35, "CourtMailModel", rfl, by decide, gin_10, g_t 1171 (by decide +kernel) (by decide +kernel), Or.inl rfl⟩
theorem fl_X9_29 : gFld RX9 29 10 12 := ⟨RX9, TX9, 35, "CourtMailModel", rfl, by decide, gin_10, g_t 1173 (by decide +kernel) (by decide +kernel), Or.inl rfl⟩
theorem fl_X9_33 : gFld RX9 33 10 13 := ⟨RX9, TX9, 35, "CourtMailModel", rfl, by decide, gin_10, g_t 1175 (by decide +kernel) (by decide +kernel), Or.inl rfl⟩
theorem fl_X9_37 : gFld RX9 37 10 14 := ⟨RX9, TX9, 35, "CourtMailModel", rfl, by decide, gin_10, g_t 1176 (by decide +kernel) (by decide +kernel), Or.inl rfl⟩
theorem fl_X9_40 : gFld RX9 40 10 15 := ⟨RX9, TX9, 35, "CourtMailModel", rfl, by decide, gin_10, g_t 1177 (by decide +kernel) (by decide +kernel), Or.inl rfl⟩
theorem fl_X9_43 : gFld RX9 43 10 16 := ⟨RX9, TX9, 35, "CourtMailModel", rfl, by decide, gin_10, g_t 1178 (by decide +kernel) (by decide +kernel), Or.inl rfl⟩
theorem fl_X9_107 : gFld RX9 107 10 17 := ⟨RX9, TX9, 35, "CourtMailModel", rfl, by decide, gin_10, g_t 1179 (by decide +kernel) (by decide +kernel), Or.inl rfl⟩
theorem fl_X9_46 : gFld RX9 46 10 18 := ⟨RX9, TX9, 35, "CourtMailModel", rfl, by decide, gin_10, g_t 1180 (by decide +kernel) (by decide +kernel), Or.inl rfl⟩
theorem fl_X9_49 : gFld RX9 49 10 19 := ⟨RX9, TX9, 35, "CourtMailModel", rfl, by decide, gin_10, g_t 1181 (by decide +kernel) (by decide +kernel), Or.inl rfl⟩
theorem fl_X9_52 : gFld RX9 52 10 20 := ⟨RX9, TX9, 35, "CourtMailModel", rfl, by decide, gin_10, g_t 1182 (by decide +kernel) (by decide +kernel), Or.inl rfl⟩
theorem fl_X9_55 : gFld RX9 55 10 21 := ⟨RX9, TX9, 35, "CourtMailModel", rfl, by decide, gin_10, g_t 1183 (by decide +kernel) (by decide +kernel), Or.inl rfl⟩
theorem fl_X9_58 : gFld RX9 58 10 22 := ⟨RX9, TX9, 35, "CourtMailModel", rfl, by decide, gin_10, g_t 1184 (by decide +kernel) (by decide +kernel), Or.inl rfl⟩
theorem fl_X9_182 : gFld RX9 182 10 23 := ⟨RX9, TX9, 35, "CourtMailModel", rfl, by decide, gin_10, g_t 1186 (by decide +kernel) (by decide +kernel), Or.inl rfl⟩
theorem fl_X9_61 : gFld RX9 61 10 24 := ⟨RX9, TX9, 35, "CourtMailModel", rfl, by decide, gin_10, g_t 1187 (by decide +kernel) (by decide +kernel), Or.inl rfl⟩
theorem fl_X9_64 : gFld RX9 64 10 25 := ⟨RX9, TX9, 35, "CourtMailModel", rfl, by decide, gin_10, g_t 1189 (by decide +kernel) (by decide +kernel), Or.inl rfl⟩
theorem fl_X9_67 : gFld RX9 67 10 26 := ⟨RX9, TX9, 35, "CourtMailModel", rfl, by decide, gin_10, g_t 1191 (by decide +kernel) (by decide +kernel), Or.inl rfl⟩
theorem fl_X9_75 : gFld RX9 75 10 27 := ⟨RX9, TX9, 35, "CourtMailModel", rfl, by decide, gin_10, g_t 1193 (by decide +kernel) (by decide +kernel), Or.inl rfl⟩
theorem fl_X9_79 : gFld RX9 79 10 28 := ⟨RX9, TX9, 35, "CourtMailModel", rfl, by decide, gin_10, g_t 1194 (by decide +kernel) (by decide +kernel), Or.inl rfl⟩
theorem fl_X9_82 : gFld RX9 82 10 29 := ⟨RX9, TX9, 35, "CourtMailModel", rfl, by decide, gin_10, g_t 1195 (by decide +kernel) (by decide +kernel), Or.inl rfl⟩
theorem fl_X9_85 : gFld RX9 85 10 30 := ⟨RX9, TX9, 35, "CourtMailModel", rfl, by decide, gin_10, g_t 1196 (by decide +kernel) (by decide +kernel), Or.inl rfl⟩
theorem fl_X9_88 : gFld RX9 88 10 31 := ⟨RX9, TX9, 35, "CourtMailModel", rfl, by decide, gin_10, g_t 1197 (by decide +kernel) (by decide +kernel), Or.inl rfl⟩
theorem fl_X9_117 : gFld RX9 117 10 32 := ⟨RX9, TX9, 35, "CourtMailModel", rfl, by decide, gin_10, g_t 1198 (by decide +kernel) (by decide +kernel), Or.inl rfl⟩
theorem fl_X9_120 : gFld RX9 120 10 33 := ⟨RX9, TX9, 35, "CourtMailModel", rfl, by decide, gin_10, g_t 1199 (by decide +kernel) (by decide +kernel), Or.inl rfl⟩
theorem fl_X9_123 : gFld RX9 123 10 34 := ⟨RX9, TX9, 35, "CourtMailModel", rfl, by decide, gin_10, g_t 1200 (by decide +kernel) (by decide +kernel), Or.inl rfl⟩
theorem fl_X9_219 : gFldN RX9 219 9 0 "CourtMailModel" := ⟨RX8, TX8, 9, rfl, by decide, gin_9, g_u 1122 (by decide +kernel)⟩
theorem fl_X9_173 : gFldN RX9 173 9 1 "CourtMailModel" := ⟨RX8, TX8, 9, rfl, by decide, gin_9, g_u 1124 (by decide +kernel)⟩
theorem fl_X9_188 : gFldN RX9 188 9 2 "CourtMailModel" := ⟨RX8, TX8, 9, rfl, by decide, gin_9, g_u 1126 (by decide +kernel)⟩
theorem fl_X9_158 : gFldN RX9 158 9 3 "CourtMailModel" := ⟨RX8, TX8, 9, rfl, by decide, gin_9, g_u 1128 (by decide +kernel)⟩
theorem fl_X9_161 : gFldN RX9 161 9 4 "CourtMailModel" := ⟨RX8, TX8, 9, rfl, by decide, gin_9, g_u 1130 (by decide +kernel)⟩
theorem fl_X9_167 : gFldN RX9 167 9 5 "CourtMailModel" := ⟨RX8, TX8, 9, rfl, by decide, gin_9, g_u 1132 (by decide +kernel)⟩
theorem fl_X9_185 : gFldN RX9 185 9 6 "CourtMailModel" := ⟨RX8, TX8, 9, rfl, by decide, gin_9, g_u 1134 (by decide +kernel)⟩
theorem fl_X9_244 : gFldN RX9 244 9 7 "CourtMailModel" := ⟨RX8, TX8, 9, rfl, by decide, gin_9, g_u 1136 (by decide +kernel)⟩
theorem fl_X8_63 : gFldN RX8 63 10 7 "CourtMailModel" := ⟨RX9, TX9, 35, rfl, by decide, gin_10, g_u 1165 (by decide +kernel)⟩
theorem fl_X8_51 : gFldN RX8 51 10 9 "CourtMailModel" := ⟨RX9, TX9, 35, rfl, by decide, gin_10, g_u 1168 (by decide +kernel)⟩
theorem fl_X8_54 : gFldN RX8 54 10 10 "CourtMailModel" := ⟨RX9, TX9, 35, rfl, by decide, gin_10, g_u 1170 (by decide +kernel)⟩
theorem fl_X8_95 : gFldN RX8 95 10 11 "CourtMailModel" := ⟨RX9, TX9, 35, rfl, by decide, gin_10, g_u 1172 (by decide +kernel)⟩
theorem fl_X8_85 : gFldN RX8 85 10 12 "CourtMailModel" := ⟨RX9, TX9, 35, rfl, by decide, gin_10, g_u 1174 (by decide +kernel)⟩
theorem fl_X8_69 : gFldN RX8 69 10 23 "CourtMailModel" := ⟨RX9, TX9, 35, rfl, by decide, gin_10, g_u 1185 (by decide +kernel)⟩
theorem fl_X8_88 : gFldN RX8 88 10 24 "CourtMailModel" := ⟨RX9, TX9, 35, rfl, by decide, gin_10, g_u 1188 (by decide +kernel)⟩
theorem fl_X8_82 : gFldN RX8 82 10 25 "CourtMailModel" := ⟨RX9, TX9, 35, rfl, by decide, gin_10, g_u 1190 (by decide +kernel)⟩
theorem fl_X8_72 : gFldN RX8 72 10 26 "CourtMailModel" := ⟨RX9, TX9, 35, rfl, by decide, gin_10, g_u 1192 (by decide +kernel)⟩
theorem pu_0_0 : gPut 0 0 false "java/util/AbstractList" okI := ⟨RJx4a65c, TJx4a65c, 3, tyJx4a65c, rfl, rfl, tyJx4a65c_ok, nmJx4a65c, rfl, rfl, fun v h => by obtain ⟨x, rfl⟩ := h; exact ⟨rfl, rfl⟩⟩
theorem pu_0_1 : gPut 0 1 false "java/util/ArrayList" okQ := ⟨RJx4a65c, TJx4a65c, 3, tyJx4a65c, rfl, rfl, tyJx4a65c_ok, nmJx4a65c, rfl, rfl, fun v h => by obtain ⟨o, rfl⟩ := h; cases o <;> exact ⟨rfl, rfl⟩⟩
theorem pu_0_2 : gPut 0 2 false "java/util/ArrayList" okI := ⟨RJx4a65c, TJx4a65c, 3, tyJx4a65c, rfl, rfl, tyJx4a65c_ok, nmJx4a65c, rfl, rfl, fun v h => by obtain ⟨x, rfl⟩ := h; exact ⟨rfl, rfl⟩⟩
theorem pu_1_0 : gPut 1 0 true "CourtMail$Case" okI := ⟨RX0, TX0, 2, tyX0, rfl, rfl, tyX0_ok, nmX0, rfl, rfl, fun v h => by obtain ⟨x, rfl⟩ := h; exact ⟨rfl, rfl⟩⟩
theorem pu_1_1 : gPut 1 1 false "CourtMail$Case" okI := ⟨RX0, TX0, 2, tyX0, rfl, rfl, tyX0_ok, nmX0, rfl, rfl, fun v h => by obtain ⟨x, rfl⟩ := h; exact ⟨rfl, rfl⟩⟩
theorem pu_2_0 : gPut 2 0 true "CourtMail$Document" okQ := ⟨RX1, TX1, 8, tyX1, rfl, rfl, tyX1_ok, nmX1, rfl, rfl, fun v h => by obtain ⟨o, rfl⟩ := h; cases o <;> exact ⟨rfl, rfl⟩⟩
theorem pu_2_1 : gPut 2 1 true "CourtMail$Document" okQ := ⟨RX1, TX1, 8, tyX1, rfl, rfl, tyX1_ok, nmX1, rfl, rfl, fun v h => by obtain ⟨o, rfl⟩ := h; cases o <;> exact ⟨rfl, rfl⟩⟩
theorem pu_2_2 : gPut 2 2 true "CourtMail$Document" okQ := ⟨RX1, TX1, 8, tyX1, rfl, rfl, tyX1_ok, nmX1, rfl, rfl, fun v h => by obtain ⟨o, rfl⟩ := h; cases o <;> exact ⟨rfl, rfl⟩⟩
theorem pu_2_3 : gPut 2 3 true "CourtMail$Document" okQ := ⟨RX1, TX1, 8, tyX1, rfl, rfl, tyX1_ok, nmX1, rfl, rfl, fun v h => by obtain ⟨o, rfl⟩ := h; cases o <;> exact ⟨rfl, rfl⟩⟩
theorem pu_2_4 : gPut 2 4 true "CourtMail$Document" okI := ⟨RX1, TX1, 8, tyX1, rfl, rfl, tyX1_ok, nmX1, rfl, rfl, fun v h => by obtain ⟨x, rfl⟩ := h; exact ⟨rfl, rfl⟩⟩
theorem pu_2_5 : gPut 2 5 false "CourtMail$Document" okQ := ⟨RX1, TX1, 8, tyX1, rfl, rfl, tyX1_ok, nmX1, rfl, rfl, fun v h => by obtain ⟨o, rfl⟩ := h; cases o <;> exact ⟨rfl, rfl⟩⟩
theorem pu_2_6 : gPut 2 6 false "CourtMail$Document" okI := ⟨RX1, TX1, 8, tyX1, rfl, rfl, tyX1_ok, nmX1, rfl, rfl, fun v h => by obtain ⟨x, rfl⟩ := h; exact ⟨rfl, rfl⟩⟩
theorem pu_2_7 : gPut 2 7 false "CourtMail$Document" okI := ⟨RX1, TX1, 8, tyX1, rfl, rfl, tyX1_ok, nmX1, rfl, rfl, fun v h => by obtain ⟨x, rfl⟩ := h; exact ⟨rfl, rfl⟩⟩
theorem pu_3_0 : gPut 3 0 true "CourtMail$Draft" okQ := ⟨RX2, TX2, 14, tyX2, rfl, rfl, tyX2_ok, nmX2, rfl, rfl, fun v h => by obtain ⟨o, rfl⟩ := h; cases o <;> exact ⟨rfl, rfl⟩⟩
theorem pu_3_1 : gPut 3 1 true "CourtMail$Draft" okQ := ⟨RX2, TX2, 14, tyX2, rfl, rfl, tyX2_ok, nmX2, rfl, rfl, fun v h => by obtain ⟨o, rfl⟩ := h; cases o <;> exact ⟨rfl, rfl⟩⟩
theorem pu_3_2 : gPut 3 2 true "CourtMail$Draft" okQ := ⟨RX2, TX2, 14, tyX2, rfl, rfl, tyX2_ok, nmX2, rfl, rfl, fun v h => by obtain ⟨o, rfl⟩ := h; cases o <;> exact ⟨rfl, rfl⟩⟩
theorem pu_3_3 : gPut 3 3 false "CourtMail$Draft" okI := ⟨RX2, TX2, 14, tyX2, rfl, rfl, tyX2_ok, nmX2, rfl, rfl, fun v h => by obtain ⟨x, rfl⟩ := h; exact ⟨rfl, rfl⟩⟩
theorem pu_3_4 : gPut 3 4 false "CourtMail$Draft" okI := ⟨RX2, TX2, 14, tyX2, rfl, rfl, tyX2_ok, nmX2, rfl, rfl, fun v h => by obtain ⟨x, rfl⟩ := h; exact ⟨rfl, rfl⟩⟩
theorem pu_3_5 : gPut 3 5 false "CourtMail$Draft" okI := ⟨RX2, TX2, 14, tyX2, rfl, rfl, tyX2_ok, nmX2, rfl, rfl, fun v h => by obtain ⟨x, rfl⟩ := h; exact ⟨rfl, rfl⟩⟩
theorem pu_3_6 : gPut 3 6 true "CourtMail$Draft" okQ := ⟨RX2, TX2, 14, tyX2, rfl, rfl, tyX2_ok, nmX2, rfl, rfl, fun v h => by obtain ⟨o, rfl⟩ := h; cases o <;> exact ⟨rfl, rfl⟩⟩
theorem pu_3_7 : gPut 3 7 false "CourtMail$Draft" okI := ⟨RX2, TX2, 14, tyX2, rfl, rfl, tyX2_ok, nmX2, rfl, rfl, fun v h => by obtain ⟨x, rfl⟩ := h; exact ⟨rfl, rfl⟩⟩
theorem pu_3_8 : gPut 3 8 false "CourtMail$Draft" okI := ⟨RX2, TX2, 14, tyX2, rfl, rfl, tyX2_ok, nmX2, rfl, rfl, fun v h => by obtain ⟨x, rfl⟩ := h; exact ⟨rfl, rfl⟩⟩
theorem pu_3_9 : gPut 3 9 false "CourtMail$Draft" okI := ⟨RX2, TX2, 14, tyX2, rfl, rfl, tyX2_ok, nmX2, rfl, rfl, fun v h => by obtain ⟨x, rfl⟩ := h; exact ⟨rfl, rfl⟩⟩
theorem pu_3_10 : gPut 3 10 false "CourtMail$Draft" okI := ⟨RX2, TX2, 14, tyX2, rfl, rfl, tyX2_ok, nmX2, rfl, rfl, fun v h => by obtain ⟨x, rfl⟩ := h; exact ⟨rfl, rfl⟩⟩
theorem pu_3_11 : gPut 3 11 false "CourtMail$Draft" okI := ⟨RX2, TX2, 14, tyX2, rfl, rfl, tyX2_ok, nmX2, rfl, rfl, fun v h => by obtain ⟨x, rfl⟩ := h; exact ⟨rfl, rfl⟩⟩
theorem pu_3_12 : gPut 3 12 false "CourtMail$Draft" okI := ⟨RX2, TX2, 14, tyX2, rfl, rfl, tyX2_ok, nmX2, rfl, rfl, fun v h => by obtain ⟨x, rfl⟩ := h; exact ⟨rfl, rfl⟩⟩
theorem pu_3_13 : gPut 3 13 false "CourtMail$Draft" okI := ⟨RX2, TX2, 14, tyX2, rfl, rfl, tyX2_ok, nmX2, rfl, rfl, fun v h => by obtain ⟨x, rfl⟩ := h; exact ⟨rfl, rfl⟩⟩
theorem pu_4_0 : gPut 4 0 true "CourtMail$Exhibit" okI := ⟨RX3, TX3, 6, tyX3, rfl, rfl, tyX3_ok, nmX3, rfl, rfl, fun v h => by obtain ⟨x, rfl⟩ := h; exact ⟨rfl, rfl⟩⟩
theorem pu_4_1 : gPut 4 1 true "CourtMail$Exhibit" okQ := ⟨RX3, TX3, 6, tyX3, rfl, rfl, tyX3_ok, nmX3, rfl, rfl, fun v h => by obtain ⟨o, rfl⟩ := h; cases o <;> exact ⟨rfl, rfl⟩⟩
theorem pu_4_2 : gPut 4 2 false "CourtMail$Exhibit" okQ := ⟨RX3, TX3, 6, tyX3, rfl, rfl, tyX3_ok, nmX3, rfl, rfl, fun v h => by obtain ⟨o, rfl⟩ := h; cases o <;> exact ⟨rfl, rfl⟩⟩
theorem pu_4_3 : gPut 4 3 false "CourtMail$Exhibit" okZ := ⟨RX3, TX3, 6, tyX3, rfl, rfl, tyX3_ok, nmX3, rfl, rfl, fun v h => by rcases h with rfl | rfl <;> exact ⟨by decide, by decide⟩⟩
theorem pu_4_4 : gPut 4 4 false "CourtMail$Exhibit" okI := ⟨RX3, TX3, 6, tyX3, rfl, rfl, tyX3_ok, nmX3, rfl, rfl, fun v h => by obtain ⟨x, rfl⟩ := h; exact ⟨rfl, rfl⟩⟩
theorem pu_4_5 : gPut 4 5 true "CourtMail$Exhibit" okQ := ⟨RX3, TX3, 6, tyX3, rfl, rfl, tyX3_ok, nmX3, rfl, rfl, fun v h => by obtain ⟨o, rfl⟩ := h; cases o <;> exact ⟨rfl, rfl⟩⟩
theorem pu_5_0 : gPut 5 0 true "CourtMail$Letter" okQ := ⟨RX4, TX4, 6, tyX4, rfl, rfl, tyX4_ok, nmX4, rfl, rfl, fun v h => by obtain ⟨o, rfl⟩ := h; cases o <;> exact ⟨rfl, rfl⟩⟩
theorem pu_5_1 : gPut 5 1 true "CourtMail$Letter" okI := ⟨RX4, TX4, 6, tyX4, rfl, rfl, tyX4_ok, nmX4, rfl, rfl, fun v h => by obtain ⟨x, rfl⟩ := h; exact ⟨rfl, rfl⟩⟩
theorem pu_5_2 : gPut 5 2 true "CourtMail$Letter" okQ := ⟨RX4, TX4, 6, tyX4, rfl, rfl, tyX4_ok, nmX4, rfl, rfl, fun v h => by obtain ⟨o, rfl⟩ := h; cases o <;> exact ⟨rfl, rfl⟩⟩
theorem pu_5_3 : gPut 5 3 true "CourtMail$Letter" okI := ⟨RX4, TX4, 6, tyX4, rfl, rfl, tyX4_ok, nmX4, rfl, rfl, fun v h => by obtain ⟨x, rfl⟩ := h; exact ⟨rfl, rfl⟩⟩
theorem pu_5_4 : gPut 5 4 false "CourtMail$Letter" okI := ⟨RX4, TX4, 6, tyX4, rfl, rfl, tyX4_ok, nmX4, rfl, rfl, fun v h => by obtain ⟨x, rfl⟩ := h; exact ⟨rfl, rfl⟩⟩
theorem pu_5_5 : gPut 5 5 false "CourtMail$Letter" okI := ⟨RX4, TX4, 6, tyX4, rfl, rfl, tyX4_ok, nmX4, rfl, rfl, fun v h => by obtain ⟨x, rfl⟩ := h; exact ⟨rfl, rfl⟩⟩
theorem pu_6_0 : gPut 6 0 true "CourtMail$Link" okI := ⟨RX5, TX5, 4, tyX5, rfl, rfl, tyX5_ok, nmX5, rfl, rfl, fun v h => by obtain ⟨x, rfl⟩ := h; exact ⟨rfl, rfl⟩⟩
theorem pu_6_1 : gPut 6 1 true "CourtMail$Link" okQ := ⟨RX5, TX5, 4, tyX5, rfl, rfl, tyX5_ok, nmX5, rfl, rfl, fun v h => by obtain ⟨o, rfl⟩ := h; cases o <;> exact ⟨rfl, rfl⟩⟩
theorem pu_6_2 : gPut 6 2 true "CourtMail$Link" okQ := ⟨RX5, TX5, 4, tyX5, rfl, rfl, tyX5_ok, nmX5, rfl, rfl, fun v h => by obtain ⟨o, rfl⟩ := h; cases o <;> exact ⟨rfl, rfl⟩⟩
theorem pu_6_3 : gPut 6 3 true "CourtMail$Link" okI := ⟨RX5, TX5, 4, tyX5, rfl, rfl, tyX5_ok, nmX5, rfl, rfl, fun v h => by obtain ⟨x, rfl⟩ := h; exact ⟨rfl, rfl⟩⟩
theorem pu_7_0 : gPut 7 0 true "CourtMail$Person" okI := ⟨RX6, TX6, 5, tyX6, rfl, rfl, tyX6_ok, nmX6, rfl, rfl, fun v h => by obtain ⟨x, rfl⟩ := h; exact ⟨rfl, rfl⟩⟩
theorem pu_7_1 : gPut 7 1 true "CourtMail$Person" okI := ⟨RX6, TX6, 5, tyX6, rfl, rfl, tyX6_ok, nmX6, rfl, rfl, fun v h => by obtain ⟨x, rfl⟩ := h; exact ⟨rfl, rfl⟩⟩
theorem pu_7_2 : gPut 7 2 false "CourtMail$Person" okI := ⟨RX6, TX6, 5, tyX6, rfl, rfl, tyX6_ok, nmX6, rfl, rfl, fun v h => by obtain ⟨x, rfl⟩ := h; exact ⟨rfl, rfl⟩⟩
theorem pu_7_3 : gPut 7 3 false "CourtMail$Person" okI := ⟨RX6, TX6, 5, tyX6, rfl, rfl, tyX6_ok, nmX6, rfl, rfl, fun v h => by obtain ⟨x, rfl⟩ := h; exact ⟨rfl, rfl⟩⟩
theorem pu_7_4 : gPut 7 4 false "CourtMail$Person" okI := ⟨RX6, TX6, 5, tyX6, rfl, rfl, tyX6_ok, nmX6, rfl, rfl, fun v h => by obtain ⟨x, rfl⟩ := h; exact ⟨rfl, rfl⟩⟩
theorem pu_8_0 : gPut 8 0 true "CourtMail" okQ := ⟨RX7, TX7, 12, tyX7, rfl, rfl, tyX7_ok, nmX7, rfl, rfl, fun v h => by obtain ⟨o, rfl⟩ := h; cases o <;> exact ⟨rfl, rfl⟩⟩
theorem pu_8_1 : gPut 8 1 true "CourtMail" okQ := ⟨RX7, TX7, 12, tyX7, rfl, rfl, tyX7_ok, nmX7, rfl, rfl, fun v h => by obtain ⟨o, rfl⟩ := h; cases o <;> exact ⟨rfl, rfl⟩⟩
theorem pu_8_2 : gPut 8 2 true "CourtMail" okQ := ⟨RX7, TX7, 12, tyX7, rfl, rfl, tyX7_ok, nmX7, rfl, rfl, fun v h => by obtain ⟨o, rfl⟩ := h; cases o <;> exact ⟨rfl, rfl⟩⟩
theorem pu_8_3 : gPut 8 3 true "CourtMail" okQ := ⟨RX7, TX7, 12, tyX7, rfl, rfl, tyX7_ok, nmX7, rfl, rfl, fun v h => by obtain ⟨o, rfl⟩ := h; cases o <;> exact ⟨rfl, rfl⟩⟩
theorem pu_8_4 : gPut 8 4 true "CourtMail" okQ := ⟨RX7, TX7, 12, tyX7, rfl, rfl, tyX7_ok, nmX7, rfl, rfl, fun v h => by obtain ⟨o, rfl⟩ := h; cases o <;> exact ⟨rfl, rfl⟩⟩
theorem pu_8_5 : gPut 8 5 true "CourtMail" okQ := ⟨RX7, TX7, 12, tyX7, rfl, rfl, tyX7_ok, nmX7, rfl, rfl, fun v h => by obtain ⟨o, rfl⟩ := h; cases o <;> exact ⟨rfl, rfl⟩⟩
theorem pu_8_6 : gPut 8 6 false "CourtMail" okI := ⟨RX7, TX7, 12, tyX7, rfl, rfl, tyX7_ok, nmX7, rfl, rfl, fun v h => by obtain ⟨x, rfl⟩ := h; exact ⟨rfl, rfl⟩⟩
theorem pu_8_7 : gPut 8 7 true "CourtMail" okQ := ⟨RX7, TX7, 12, tyX7, rfl, rfl, tyX7_ok, nmX7, rfl, rfl, fun v h => by obtain ⟨o, rfl⟩ := h; cases o <;> exact ⟨rfl, rfl⟩⟩
theorem pu_8_8 : gPut 8 8 false "CourtMail" okI := ⟨RX7, TX7, 12, tyX7, rfl, rfl, tyX7_ok, nmX7, rfl, rfl, fun v h => by obtain ⟨x, rfl⟩ := h; exact ⟨rfl, rfl⟩⟩
theorem pu_8_9 : gPut 8 9 true "CourtMail" okQ := ⟨RX7, TX7, 12, tyX7, rfl, rfl, tyX7_ok, nmX7, rfl, rfl, fun v h => by obtain ⟨o, rfl⟩ := h; cases o <;> exact ⟨rfl, rfl⟩⟩
theorem pu_8_10 : gPut 8 10 false "CourtMail" okI := ⟨RX7, TX7, 12, tyX7, rfl, rfl, tyX7_ok, nmX7, rfl, rfl, fun v h => by obtain ⟨x, rfl⟩ := h; exact ⟨rfl, rfl⟩⟩
theorem pu_8_11 : gPut 8 11 false "CourtMail" okI := ⟨RX7, TX7, 12, tyX7, rfl, rfl, tyX7_ok, nmX7, rfl, rfl, fun v h => by obtain ⟨x, rfl⟩ := h; exact ⟨rfl, rfl⟩⟩
theorem pu_9_0 : gPut 9 0 false "CourtMailModel$State" okI := ⟨RX8, TX8, 9, tyX8, rfl, rfl, tyX8_ok, nmX8, rfl, rfl, fun v h => by obtain ⟨x, rfl⟩ := h; exact ⟨rfl, rfl⟩⟩
theorem pu_9_1 : gPut 9 1 true "CourtMailModel$State" okQ := ⟨RX8, TX8, 9, tyX8, rfl, rfl, tyX8_ok, nmX8, rfl, rfl, fun v h => by obtain ⟨o, rfl⟩ := h; cases o <;> exact ⟨rfl, rfl⟩⟩
theorem pu_9_2 : gPut 9 2 true "CourtMailModel$State" okQ := ⟨RX8, TX8, 9, tyX8, rfl, rfl, tyX8_ok, nmX8, rfl, rfl, fun v h => by obtain ⟨o, rfl⟩ := h; cases o <;> exact ⟨rfl, rfl⟩⟩
theorem pu_9_3 : gPut 9 3 true "CourtMailModel$State" okQ := ⟨RX8, TX8, 9, tyX8, rfl, rfl, tyX8_ok, nmX8, rfl, rfl, fun v h => by obtain ⟨o, rfl⟩ := h; cases o <;> exact ⟨rfl, rfl⟩⟩
theorem pu_9_4 : gPut 9 4 true "CourtMailModel$State" okQ := ⟨RX8, TX8, 9, tyX8, rfl, rfl, tyX8_ok, nmX8, rfl, rfl, fun v h => by obtain ⟨o, rfl⟩ := h; cases o <;> exact ⟨rfl, rfl⟩⟩
theorem pu_9_5 : gPut 9 5 true "CourtMailModel$State" okQ := ⟨RX8, TX8, 9, tyX8, rfl, rfl, tyX8_ok, nmX8, rfl, rfl, fun v h => by obtain ⟨o, rfl⟩ := h; cases o <;> exact ⟨rfl, rfl⟩⟩
theorem pu_9_6 : gPut 9 6 true "CourtMailModel$State" okQ := ⟨RX8, TX8, 9, tyX8, rfl, rfl, tyX8_ok, nmX8, rfl, rfl, fun v h => by obtain ⟨o, rfl⟩ := h; cases o <;> exact ⟨rfl, rfl⟩⟩
theorem pu_9_7 : gPut 9 7 true "CourtMailModel$State" okQ := ⟨RX8, TX8, 9, tyX8, rfl, rfl, tyX8_ok, nmX8, rfl, rfl, fun v h => by obtain ⟨o, rfl⟩ := h; cases o <;> exact ⟨rfl, rfl⟩⟩
theorem pu_9_8 : gPut 9 8 true "CourtMailModel$State" okQ := ⟨RX8, TX8, 9, tyX8, rfl, rfl, tyX8_ok, nmX8, rfl, rfl, fun v h => by obtain ⟨o, rfl⟩ := h; cases o <;> exact ⟨rfl, rfl⟩⟩
theorem pu_10_0 : gPut 10 0 false "CourtMailModel" okI := ⟨RX9, TX9, 35, tyX9, rfl, rfl, tyX9_ok, nmX9, rfl, rfl, fun v h => by obtain ⟨x, rfl⟩ := h; exact ⟨rfl, rfl⟩⟩
theorem pu_10_1 : gPut 10 1 true "CourtMailModel" okQ := ⟨RX9, TX9, 35, tyX9, rfl, rfl, tyX9_ok, nmX9, rfl, rfl, fun v h => by obtain ⟨o, rfl⟩ := h; cases o <;> exact ⟨rfl, rfl⟩⟩
theorem pu_10_2 : gPut 10 2 false "CourtMailModel" okI := ⟨RX9, TX9, 35, tyX9, rfl, rfl, tyX9_ok, nmX9, rfl, rfl, fun v h => by obtain ⟨x, rfl⟩ := h; exact ⟨rfl, rfl⟩⟩
theorem pu_10_3 : gPut 10 3 false "CourtMailModel" okI := ⟨RX9, TX9, 35, tyX9, rfl, rfl, tyX9_ok, nmX9, rfl, rfl, fun v h => by obtain ⟨x, rfl⟩ := h; exact ⟨rfl, rfl⟩⟩
theorem pu_10_4 : gPut 10 4 true "CourtMailModel" okQ := ⟨RX9, TX9, 35, tyX9, rfl, rfl, tyX9_ok, nmX9, rfl, rfl, fun v h => by obtain ⟨o, rfl⟩ := h; cases o <;> exact ⟨rfl, rfl⟩⟩
theorem pu_10_5 : gPut 10 5 false "CourtMailModel" okI := ⟨RX9, TX9, 35, tyX9, rfl, rfl, tyX9_ok, nmX9, rfl, rfl, fun v h => by obtain ⟨x, rfl⟩ := h; exact ⟨rfl, rfl⟩⟩
theorem pu_10_6 : gPut 10 6 false "CourtMailModel" okI := ⟨RX9, TX9, 35, tyX9, rfl, rfl, tyX9_ok, nmX9, rfl, rfl, fun v h => by obtain ⟨x, rfl⟩ := h; exact ⟨rfl, rfl⟩⟩
theorem pu_10_7 : gPut 10 7 true "CourtMailModel" okQ := ⟨RX9, TX9, 35, tyX9, rfl, rfl, tyX9_ok, nmX9, rfl, rfl, fun v h => by obtain ⟨o, rfl⟩ := h; cases o <;> exact ⟨rfl, rfl⟩⟩
theorem pu_10_8 : gPut 10 8 false "CourtMailModel" okI := ⟨RX9, TX9, 35, tyX9, rfl, rfl, tyX9_ok, nmX9, rfl, rfl, fun v h => by obtain ⟨x, rfl⟩ := h; exact ⟨rfl, rfl⟩⟩
theorem pu_10_9 : gPut 10 9 true "CourtMailModel" okQ := ⟨RX9, TX9, 35, tyX9, rfl, rfl, tyX9_ok, nmX9, rfl, rfl, fun v h => by obtain ⟨o, rfl⟩ := h; cases o <;> exact ⟨rfl, rfl⟩⟩
theorem pu_10_10 : gPut 10 10 true "CourtMailModel" okQ := ⟨RX9, TX9, 35, tyX9, rfl, rfl, tyX9_ok, nmX9, rfl, rfl, fun v h => by obtain ⟨o, rfl⟩ := h; cases o <;> exact ⟨rfl, rfl⟩⟩
theorem pu_10_11 : gPut 10 11 false "CourtMailModel" okI := ⟨RX9, TX9, 35, tyX9, rfl, rfl, tyX9_ok, nmX9, rfl, rfl, fun v h => by obtain ⟨x, rfl⟩ := h; exact ⟨rfl, rfl⟩⟩
theorem pu_10_12 : gPut 10 12 true "CourtMailModel" okQ := ⟨RX9, TX9, 35, tyX9, rfl, rfl, tyX9_ok, nmX9, rfl, rfl, fun v h => by obtain ⟨o, rfl⟩ := h; cases o <;> exact ⟨rfl, rfl⟩⟩
theorem pu_10_13 : gPut 10 13 true "CourtMailModel" okQ := ⟨RX9, TX9, 35, tyX9, rfl, rfl, tyX9_ok, nmX9, rfl, rfl, fun v h => by obtain ⟨o, rfl⟩ := h; cases o <;> exact ⟨rfl, rfl⟩⟩
theorem pu_10_14 : gPut 10 14 true "CourtMailModel" okQ := ⟨RX9, TX9, 35, tyX9, rfl, rfl, tyX9_ok, nmX9, rfl, rfl, fun v h => by obtain ⟨o, rfl⟩ := h; cases o <;> exact ⟨rfl, rfl⟩⟩
theorem pu_10_15 : gPut 10 15 true "CourtMailModel" okQ := ⟨RX9, TX9, 35, tyX9, rfl, rfl, tyX9_ok, nmX9, rfl, rfl, fun v h => by obtain ⟨o, rfl⟩ := h; cases o <;> exact ⟨rfl, rfl⟩⟩
theorem pu_10_16 : gPut 10 16 true "CourtMailModel" okQ := ⟨RX9, TX9, 35, tyX9, rfl, rfl, tyX9_ok, nmX9, rfl, rfl, fun v h => by obtain ⟨o, rfl⟩ := h; cases o <;> exact ⟨rfl, rfl⟩⟩
theorem pu_10_17 : gPut 10 17 false "CourtMailModel" okI := ⟨RX9, TX9, 35, tyX9, rfl, rfl, tyX9_ok, nmX9, rfl, rfl, fun v h => by obtain ⟨x, rfl⟩ := h; exact ⟨rfl, rfl⟩⟩
theorem pu_10_18 : gPut 10 18 true "CourtMailModel" okQ := ⟨RX9, TX9, 35, tyX9, rfl, rfl, tyX9_ok, nmX9, rfl, rfl, fun v h => by obtain ⟨o, rfl⟩ := h; cases o <;> exact ⟨rfl, rfl⟩⟩
theorem pu_10_19 : gPut 10 19 true "CourtMailModel" okQ := ⟨RX9, TX9, 35, tyX9, rfl, rfl, tyX9_ok, nmX9, rfl, rfl, fun v h => by obtain ⟨o, rfl⟩ := h; cases o <;> exact ⟨rfl, rfl⟩⟩
theorem pu_10_20 : gPut 10 20 true "CourtMailModel" okQ := ⟨RX9, TX9, 35, tyX9, rfl, rfl, tyX9_ok, nmX9, rfl, rfl, fun v h => by obtain ⟨o, rfl⟩ := h; cases o <;> exact ⟨rfl, rfl⟩⟩
theorem pu_10_21 : gPut 10 21 true "CourtMailModel" okQ := ⟨RX9, TX9, 35, tyX9, rfl, rfl, tyX9_ok, nmX9, rfl, rfl, fun v h => by obtain ⟨o, rfl⟩ := h; cases o <;> exact ⟨rfl, rfl⟩⟩
theorem pu_10_22 : gPut 10 22 true "CourtMailModel" okQ := ⟨RX9, TX9, 35, tyX9, rfl, rfl, tyX9_ok, nmX9, rfl, rfl, fun v h => by obtain ⟨o, rfl⟩ := h; cases o <;> exact ⟨rfl, rfl⟩⟩
theorem pu_10_23 : gPut 10 23 false "CourtMailModel" okI := ⟨RX9, TX9, 35, tyX9, rfl, rfl, tyX9_ok, nmX9, rfl, rfl, fun v h => by obtain ⟨x, rfl⟩ := h; exact ⟨rfl, rfl⟩⟩
theorem pu_10_24 : gPut 10 24 true "CourtMailModel" okQ := ⟨RX9, TX9, 35, tyX9, rfl, rfl, tyX9_ok, nmX9, rfl, rfl, fun v h => by obtain ⟨o, rfl⟩ := h; cases o <;> exact ⟨rfl, rfl⟩⟩
theorem pu_10_25 : gPut 10 25 true "CourtMailModel" okQ := ⟨RX9, TX9, 35, tyX9, rfl, rfl, tyX9_ok, nmX9, rfl, rfl, fun v h => by obtain ⟨o, rfl⟩ := h; cases o <;> exact ⟨rfl, rfl⟩⟩
theorem pu_10_26 : gPut 10 26 true "CourtMailModel" okQ := ⟨RX9, TX9, 35, tyX9, rfl, rfl, tyX9_ok, nmX9, rfl, rfl, fun v h => by obtain ⟨o, rfl⟩ := h; cases o <;> exact ⟨rfl, rfl⟩⟩
theorem pu_10_27 : gPut 10 27 true "CourtMailModel" okQ := ⟨RX9, TX9, 35, tyX9, rfl, rfl, tyX9_ok, nmX9, rfl, rfl, fun v h => by obtain ⟨o, rfl⟩ := h; cases o <;> exact ⟨rfl, rfl⟩⟩
theorem pu_10_28 : gPut 10 28 true "CourtMailModel" okQ := ⟨RX9, TX9, 35, tyX9, rfl, rfl, tyX9_ok, nmX9, rfl, rfl, fun v h => by obtain ⟨o, rfl⟩ := h; cases o <;> exact ⟨rfl, rfl⟩⟩
theorem pu_10_29 : gPut 10 29 true "CourtMailModel" okQ := ⟨RX9, TX9, 35, tyX9, rfl, rfl, tyX9_ok, nmX9, rfl, rfl, fun v h => by obtain ⟨o, rfl⟩ := h; cases o <;> exact ⟨rfl, rfl⟩⟩
theorem pu_10_30 : gPut 10 30 true "CourtMailModel" okQ := ⟨RX9, TX9, 35, tyX9, rfl, rfl, tyX9_ok, nmX9, rfl, rfl, fun v h => by obtain ⟨o, rfl⟩ := h; cases o <;> exact ⟨rfl, rfl⟩⟩
theorem pu_10_31 : gPut 10 31 true "CourtMailModel" okQ := ⟨RX9, TX9, 35, tyX9, rfl, rfl, tyX9_ok, nmX9, rfl, rfl, fun v h => by obtain ⟨o, rfl⟩ := h; cases o <;> exact ⟨rfl, rfl⟩⟩
theorem pu_10_32 : gPut 10 32 false "CourtMailModel" okI := ⟨RX9, TX9, 35, tyX9, rfl, rfl, tyX9_ok, nmX9, rfl, rfl, fun v h => by obtain ⟨x, rfl⟩ := h; exact ⟨rfl, rfl⟩⟩
theorem pu_10_33 : gPut 10 33 false "CourtMailModel" okI := ⟨RX9, TX9, 35, tyX9, rfl, rfl, tyX9_ok, nmX9, rfl, rfl, fun v h => by obtain ⟨x, rfl⟩ := h; exact ⟨rfl, rfl⟩⟩
theorem pu_10_34 : gPut 10 34 false "CourtMailModel" okI := ⟨RX9, TX9, 35, tyX9, rfl, rfl, tyX9_ok, nmX9, rfl, rfl, fun v h => by obtain ⟨x, rfl⟩ := h; exact ⟨rfl, rfl⟩⟩
theorem cl_L_8 : Cond.classLink RL 8 "CourtMail" ∈ gWords := g_t 27 (by decide +kernel) (by decide +kernel)
theorem nw_L_8 : gNew RL 8 8 := ⟨RX7, TX7, 12, tyX7, rfl, rfl, gin_8, tyX7_ok, cl_L_8, g_t 28 (by decide +kernel) (by decide +kernel), g_t 1 (by decide +kernel) (by decide +kernel), by decide +kernel⟩
theorem cl_X7_9 : Cond.classLink RX7 9 "java/util/ArrayList" ∈ gWords := g_t 35 (by decide +kernel) (by decide +kernel)
theorem nw_X7_9 : gNew RX7 9 0 := ⟨RJx4a65c, TJx4a65c, 3, tyJx4a65c, rfl, rfl, gin_0, tyJx4a65c_ok, cl_X7_9, g_t 36 (by decide +kernel) (by decide +kernel), g_t 4 (by decide +kernel) (by decide +kernel), by decide +kernel⟩
theorem cl_X7_42 : Cond.classLink RX7 42 "CourtMail$Draft" ∈ gWords := g_t 61 (by decide +kernel) (by decide +kernel)
theorem nw_X7_42 : gNew RX7 42 3 := ⟨RX2, TX2, 14, tyX2, rfl, rfl, gin_3, tyX2_ok, cl_X7_42, g_t 62 (by decide +kernel) (by decide +kernel), g_t 5 (by decide +kernel) (by decide +kernel), by decide +kernel⟩
theorem cl_X7_95 : Cond.classLink RX7 95 "CourtMail$Document" ∈ gWords := g_t 181 (by decide +kernel) (by decide +kernel)
theorem nw_X7_95 : gNew RX7 95 2 := ⟨RX1, TX1, 8, tyX1, rfl, rfl, gin_2, tyX1_ok, cl_X7_95, g_t 524 (by decide +kernel) (by decide +kernel), g_t 17 (by decide +kernel) (by decide +kernel), by decide +kernel⟩
theorem cl_X7_312 : Cond.classLink RX7 312 "CourtMail$Letter" ∈ gWords := g_t 200 (by decide +kernel) (by decide +kernel)
theorem nw_X7_312 : gNew RX7 312 5 := ⟨RX4, TX4, 6, tyX4, rfl, rfl, gin_5, tyX4_ok, cl_X7_312, g_t 995 (by decide +kernel) (by decide +kernel), g_t 26 (by decide +kernel) (by decide +kernel), by decide +kernel⟩
theorem cl_X7_241 : Cond.classLink RX7 241 "CourtMail$Exhibit" ∈ gWords := g_t 205 (by decide +kernel) (by decide +kernel)
theorem nw_X7_241 : gNew RX7 241 4 := ⟨RX3, TX3, 6, tyX3, rfl, rfl, gin_4, tyX3_ok, cl_X7_241, g_t 867 (by decide +kernel) (by decide +kernel), g_t 24 (by decide +kernel) (by decide +kernel), by decide +kernel⟩
theorem cl_X7_134 : Cond.classLink RX7 134 "CourtMail$Case" ∈ gWords := g_t 214 (by decide +kernel) (by decide +kernel)
theorem nw_X7_134 : gNew RX7 134 1 := ⟨RX0, TX0, 2, tyX0, rfl, rfl, gin_1, tyX0_ok, cl_X7_134, g_t 673 (by decide +kernel) (by decide +kernel), g_t 21 (by decide +kernel) (by decide +kernel), by decide +kernel⟩
theorem cl_X3_49 : Cond.classLink RX3 49 "CourtMail$Link" ∈ gWords := g_t 243 (by decide +kernel) (by decide +kernel)
theorem nw_X3_49 : gNew RX3 49 6 := ⟨RX5, TX5, 4, tyX5, rfl, rfl, gin_6, tyX5_ok, cl_X3_49, g_t 917 (by decide +kernel) (by decide +kernel), g_t 25 (by decide +kernel) (by decide +kernel), by decide +kernel⟩
theorem cl_X7_146 : Cond.classLink RX7 146 "CourtMail$Person" ∈ gWords := g_t 252 (by decide +kernel) (by decide +kernel)
theorem nw_X7_146 : gNew RX7 146 7 := ⟨RX6, TX6, 5, tyX6, rfl, rfl, gin_7, tyX6_ok, cl_X7_146, g_t 705 (by decide +kernel) (by decide +kernel), g_t 22 (by decide +kernel) (by decide +kernel), by decide +kernel⟩
theorem cl_X7_269 : Cond.classLink RX7 269 "CourtMail$Link" ∈ gWords := g_t 329 (by decide +kernel) (by decide +kernel)
theorem nw_X7_269 : gNew RX7 269 6 := ⟨RX5, TX5, 4, tyX5, rfl, rfl, gin_6, tyX5_ok, cl_X7_269, g_t 917 (by decide +kernel) (by decide +kernel), g_t 25 (by decide +kernel) (by decide +kernel), by decide +kernel⟩
theorem cl_L_13 : Cond.classLink RL 13 "java/lang/IllegalStateException" ∈ gWords := g_t 343 (by decide +kernel) (by decide +kernel)
theorem cl_X7_55 : Cond.classLink RX7 55 "java/lang/IllegalStateException" ∈ gWords := g_t 348 (by decide +kernel) (by decide +kernel)
theorem cl_L_19 : Cond.classLink RL 19 "java/lang/IllegalArgumentException" ∈ gWords := g_t 422 (by decide +kernel) (by decide +kernel)
theorem cl_X7_66 : Cond.classLink RX7 66 "java/lang/IllegalArgumentException" ∈ gWords := g_t 427 (by decide +kernel) (by decide +kernel)
theorem cl_L_24 : Cond.classLink RL 24 "java/lang/IndexOutOfBoundsException" ∈ gWords := g_t 446 (by decide +kernel) (by decide +kernel)
theorem cl_X7_75 : Cond.classLink RX7 75 "java/lang/IndexOutOfBoundsException" ∈ gWords := g_t 455 (by decide +kernel) (by decide +kernel)
theorem cl_J7_311 : Cond.classLink RJ7 311 "[B" ∈ gWords := g_t 542 (by decide +kernel) (by decide +kernel)
theorem cl_J7_110 : Cond.classLink RJ7 110 "[Ljava/lang/Object;" ∈ gWords := g_t 627 (by decide +kernel) (by decide +kernel)
theorem cl_J7_2 : Cond.classLink RJ7 2 "java/lang/Object" ∈ gWords := g_t 629 (by decide +kernel) (by decide +kernel)
theorem cl_Jx4a65c_7 : Cond.classLink RJx4a65c 7 "java/lang/Object" ∈ gWords := g_t 631 (by decide +kernel) (by decide +kernel)
theorem cl_X3_19 : Cond.classLink RX3 19 "java/util/ArrayList" ∈ gWords := g_t 872 (by decide +kernel) (by decide +kernel)
theorem nw_X3_19 : gNew RX3 19 0 := ⟨RJx4a65c, TJx4a65c, 3, tyJx4a65c, rfl, rfl, gin_0, tyJx4a65c_ok, cl_X3_19, g_t 36 (by decide +kernel) (by decide +kernel), g_t 4 (by decide +kernel) (by decide +kernel), by decide +kernel⟩
theorem cl_L_118 : Cond.classLink RL 118 "CourtMailModel" ∈ gWords := g_t 1107 (by decide +kernel) (by decide +kernel)
theorem nw_L_118 : gNew RL 118 10 := ⟨RX9, TX9, 35, tyX9, rfl, rfl, gin_10, tyX9_ok, cl_L_118, g_t 1108 (by decide +kernel) (by decide +kernel), g_t 6 (by decide +kernel) (by decide +kernel), by decide +kernel⟩
theorem cl_X9_32 : Cond.classLink RX9 32 "[I" ∈ gWords := g_t 1113 (by decide +kernel) (by decide +kernel)
theorem cl_X9_70 : Cond.classLink RX9 70 "CourtMailModel$State" ∈ gWords := g_t 1115 (by decide +kernel) (by decide +kernel)
theorem nw_X9_70 : gNew RX9 70 9 := ⟨RX8, TX8, 9, tyX8, rfl, rfl, gin_9, tyX8_ok, cl_X9_70, g_t 1116 (by decide +kernel) (by decide +kernel), g_t 7 (by decide +kernel) (by decide +kernel), by decide +kernel⟩
theorem cl_J7_317 : Cond.classLink RJ7 317 "[I" ∈ gWords := g_t 1326 (by decide +kernel) (by decide +kernel)
