/-! what the launch's own file says of the law's entry: no witness can meet a code word without a table -/
theorem ev_no : ((launch0.file? x.cls).any fun f => f.hasCode x code maxLocals ret) = false := by decide +kernel
theorem ev_five : ((launch0.file? x.cls).bind fun f => (f.methodOf? x).bind fun r => r.code.map fun q => q.2.2) = some 5 := by decide +kernel
theorem ev_rest : (((headSpec (Cond.code x code maxLocals ret :: tables_1) room_1).pre.codes.drop 1).all fun y => (launch0.file? y.1.cls).any fun f => f.hasCode y.1 y.2.1 y.2.2.1 y.2.2.2) = true := by decide +kernel
theorem ev_first : (headSpec (Cond.code x code maxLocals ret :: tables_1) room_1).pre.codes.head?.map (fun y => (y.1.cls, y.1.name, y.1.desc)) = some (x.cls, x.name, x.desc) := by decide +kernel
/-- the launch that the printed statement supposes doesn't exist: its first code word is false of the class file that it names -/
theorem ev_none (l : Launch) : ¬ Lists l classFile x code maxLocals ret tables_1 room_1 := by
  intro hL
  obtain ⟨-, hf, ⟨hc, -⟩, -⟩ := hL
  have h := hc (x, code, maxLocals, ret) (List.mem_append_left _ (List.mem_of_getElem? (i := 0) rfl))
  rw [hf] at h
  exact absurd h (by decide +kernel)
/-- EVIDENCE ALONE, no proof of the property: the printed statement is empty -/
theorem ev_empty : Claimed_1_1 ∧ Claimed_1_2 := ⟨fun l _ hL _ => absurd hL (ev_none l), fun l _ hL _ => absurd hL (ev_none l)⟩
