/-! words of the tables by their segments -/
theorem g_m1 {w : Cond} (h9 : w ∈ tables_1_1) : w ∈ tables_1 := List.mem_append_left _ h9
theorem g_t1 (i : Nat) {w : Cond} (h : tables_1_1[i]? = some w) (hg : goodWord w = true) : w ∈ gWords := List.mem_filter.mpr ⟨List.mem_append_right _ (g_m1 (List.mem_of_getElem? h)), hg⟩
theorem g_u1 (i : Nat) {w : Cond} (h : tables_1_1[i]? = some w) : w ∈ tables_1 := g_m1 (List.mem_of_getElem? h)
theorem g_m2 {w : Cond} (h9 : w ∈ tables_1_2) : w ∈ tables_1 := List.mem_append_right _ (List.mem_append_left _ h9)
theorem g_t2 (i : Nat) {w : Cond} (h : tables_1_2[i]? = some w) (hg : goodWord w = true) : w ∈ gWords := List.mem_filter.mpr ⟨List.mem_append_right _ (g_m2 (List.mem_of_getElem? h)), hg⟩
theorem g_u2 (i : Nat) {w : Cond} (h : tables_1_2[i]? = some w) : w ∈ tables_1 := g_m2 (List.mem_of_getElem? h)
theorem g_m3 {w : Cond} (h9 : w ∈ tables_1_3) : w ∈ tables_1 := List.mem_append_right _ (List.mem_append_right _ (List.mem_append_left _ h9))
theorem g_t3 (i : Nat) {w : Cond} (h : tables_1_3[i]? = some w) (hg : goodWord w = true) : w ∈ gWords := List.mem_filter.mpr ⟨List.mem_append_right _ (g_m3 (List.mem_of_getElem? h)), hg⟩
theorem g_u3 (i : Nat) {w : Cond} (h : tables_1_3[i]? = some w) : w ∈ tables_1 := g_m3 (List.mem_of_getElem? h)
theorem g_m4 {w : Cond} (h9 : w ∈ tables_1_4) : w ∈ tables_1 := List.mem_append_right _ (List.mem_append_right _ (List.mem_append_right _ (List.mem_append_left _ h9)))
theorem g_t4 (i : Nat) {w : Cond} (h : tables_1_4[i]? = some w) (hg : goodWord w = true) : w ∈ gWords := List.mem_filter.mpr ⟨List.mem_append_right _ (g_m4 (List.mem_of_getElem? h)), hg⟩
theorem g_u4 (i : Nat) {w : Cond} (h : tables_1_4[i]? = some w) : w ∈ tables_1 := g_m4 (List.mem_of_getElem? h)
theorem g_m5 {w : Cond} (h9 : w ∈ tables_1_5) : w ∈ tables_1 := List.mem_append_right _ (List.mem_append_right _ (List.mem_append_right _ (List.mem_append_right _ (List.mem_append_left _ h9))))
theorem g_t5 (i : Nat) {w : Cond} (h : tables_1_5[i]? = some w) (hg : goodWord w = true) : w ∈ gWords := List.mem_filter.mpr ⟨List.mem_append_right _ (g_m5 (List.mem_of_getElem? h)), hg⟩
theorem g_u5 (i : Nat) {w : Cond} (h : tables_1_5[i]? = some w) : w ∈ tables_1 := g_m5 (List.mem_of_getElem? h)
theorem g_m6 {w : Cond} (h9 : w ∈ tables_1_6) : w ∈ tables_1 := List.mem_append_right _ (List.mem_append_right _ (List.mem_append_right _ (List.mem_append_right _ (List.mem_append_right _ (List.mem_append_left _ h9)))))
theorem g_t6 (i : Nat) {w : Cond} (h : tables_1_6[i]? = some w) (hg : goodWord w = true) : w ∈ gWords := List.mem_filter.mpr ⟨List.mem_append_right _ (g_m6 (List.mem_of_getElem? h)), hg⟩
theorem g_u6 (i : Nat) {w : Cond} (h : tables_1_6[i]? = some w) : w ∈ tables_1 := g_m6 (List.mem_of_getElem? h)
theorem g_m7 {w : Cond} (h9 : w ∈ tables_1_7) : w ∈ tables_1 := List.mem_append_right _ (List.mem_append_right _ (List.mem_append_right _ (List.mem_append_right _ (List.mem_append_right _ (List.mem_append_right _ (h9))))))
theorem g_t7 (i : Nat) {w : Cond} (h : tables_1_7[i]? = some w) (hg : goodWord w = true) : w ∈ gWords := List.mem_filter.mpr ⟨List.mem_append_right _ (g_m7 (List.mem_of_getElem? h)), hg⟩
theorem g_u7 (i : Nat) {w : Cond} (h : tables_1_7[i]? = some w) : w ∈ tables_1 := g_m7 (List.mem_of_getElem? h)
