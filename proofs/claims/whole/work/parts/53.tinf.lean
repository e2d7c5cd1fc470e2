/-! the words are among the tables' -/
set_option maxRecDepth 100000 in
theorem uin3 : ∀ w ∈ wsX30, w ∈ lw_tbl := fun w hw => by
  obtain ⟨k, hk, rfl⟩ := List.mem_map.mp hw
  have hk := List.mem_range.mp hk
  rcases (show k = 0 ∨ k = 1 ∨ k = 2 ∨ k = 3 ∨ k = 4 ∨ k = 5 ∨ k = 6 ∨ k = 7 ∨ k = 8 ∨ k = 9 ∨ k = 10 ∨ k = 11 ∨ k = 12 ∨ k = 13 ∨ k = 14 by omega) with rfl | rfl | rfl | rfl | rfl | rfl | rfl | rfl | rfl | rfl | rfl | rfl | rfl | rfl | rfl
  · exact (List.mem_of_getElem? (i := 241) (by decide +kernel))
  · exact (List.mem_of_getElem? (i := 243) (by decide +kernel))
  · exact (List.mem_of_getElem? (i := 245) (by decide +kernel))
  · exact (List.mem_of_getElem? (i := 247) (by decide +kernel))
  · exact (List.mem_of_getElem? (i := 249) (by decide +kernel))
  · exact (List.mem_of_getElem? (i := 251) (by decide +kernel))
  · exact (List.mem_of_getElem? (i := 253) (by decide +kernel))
  · exact (List.mem_of_getElem? (i := 255) (by decide +kernel))
  · exact (List.mem_of_getElem? (i := 257) (by decide +kernel))
  · exact (List.mem_of_getElem? (i := 259) (by decide +kernel))
  · exact (List.mem_of_getElem? (i := 261) (by decide +kernel))
  · exact (List.mem_of_getElem? (i := 263) (by decide +kernel))
  · exact (List.mem_of_getElem? (i := 265) (by decide +kernel))
  · exact (List.mem_of_getElem? (i := 267) (by decide +kernel))
  · exact (List.mem_of_getElem? (i := 269) (by decide +kernel))
set_option maxRecDepth 100000 in
theorem uin7 : ∀ w ∈ wsX70, w ∈ lw_tbl := fun w hw => by
  obtain ⟨k, hk, rfl⟩ := List.mem_map.mp hw
  have hk := List.mem_range.mp hk
  rcases (show k = 0 ∨ k = 1 ∨ k = 2 by omega) with rfl | rfl | rfl
  · exact (List.mem_of_getElem? (i := 283) (by decide +kernel))
  · exact (List.mem_of_getElem? (i := 285) (by decide +kernel))
  · exact (List.mem_of_getElem? (i := 287) (by decide +kernel))
set_option maxRecDepth 100000 in
theorem uin4 : ∀ w ∈ wsX40, w ∈ lw_tbl := fun w hw => absurd hw List.not_mem_nil
set_option maxRecDepth 100000 in
theorem uin2 : ∀ w ∈ wsX20, w ∈ lw_tbl := fun w hw => absurd hw List.not_mem_nil
set_option maxRecDepth 100000 in
theorem uin8 : ∀ w ∈ wsX80, w ∈ lw_tbl := fun w hw => absurd hw List.not_mem_nil
set_option maxRecDepth 100000 in
theorem uin5 : ∀ w ∈ wsX50, w ∈ lw_tbl := fun w hw => absurd hw List.not_mem_nil
set_option maxRecDepth 100000 in
theorem uin1 : ∀ w ∈ wsX10, w ∈ lw_tbl := fun w hw => absurd hw List.not_mem_nil
set_option maxRecDepth 100000 in
theorem uin6 : ∀ w ∈ wsX60, w ∈ lw_tbl := fun w hw => absurd hw List.not_mem_nil
