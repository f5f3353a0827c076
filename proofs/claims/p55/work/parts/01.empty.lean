/-! The statement of p55 is EMPTY. The law's entry has a table of five catches; the statement's head word says that it has none; so no launch with these class files meets the premises. Nothing here speaks of the program. -/
theorem pe_nocode : Jvm.ClassFile.Facts.File.hasCode classFile x code maxLocals ret = false := by decide +kernel
theorem pe_nopin : ¬ PinnedClaimed := by
  intro h
  exact absurd (pe_nocode.symm.trans h) (by decide)
theorem pe_nolaunch (l : Launch) : ¬ Lists l classFile x code maxLocals ret tables_1 room_1 := by
  rintro ⟨-, hf, hL, -⟩
  have h1 := hL.1 (x, code, maxLocals, ret) (List.mem_append_left _ (List.mem_append_left _ (List.mem_singleton.mpr rfl)))
  rw [show l.file? (x, code, maxLocals, ret).1.cls = some classFile from hf, Option.any_some] at h1
  exact absurd (pe_nocode.symm.trans h1) (by decide)
