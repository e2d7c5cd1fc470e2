theorem fsX0 : ∀ j, j < 6 → defaultValue (tyX0 j) = vp_V [.null, .null, .null, .null, .null, .null] j := fun j hj => by rcases (show j = 0 ∨ j = 1 ∨ j = 2 ∨ j = 3 ∨ j = 4 ∨ j = 5 by omega) with rfl | rfl | rfl | rfl | rfl | rfl <;> rfl
theorem fsX1 : ∀ j, j < 0 → defaultValue (tyX1 j) = vp_V [] j := fun j hj => absurd hj (Nat.not_lt_zero _)
theorem fsX2 : ∀ j, j < 0 → defaultValue (tyX2 j) = vp_V [] j := fun j hj => absurd hj (Nat.not_lt_zero _)
theorem fsX3 : ∀ j, j < 15 → defaultValue (tyX3 j) = vp_V [.null, .null, .null, .null, .null, .null, .null, .null, .int 0, .int 0, .int 0, .int 0, .int 0, .null, .int 0] j := fun j hj => by rcases (show j = 0 ∨ j = 1 ∨ j = 2 ∨ j = 3 ∨ j = 4 ∨ j = 5 ∨ j = 6 ∨ j = 7 ∨ j = 8 ∨ j = 9 ∨ j = 10 ∨ j = 11 ∨ j = 12 ∨ j = 13 ∨ j = 14 by omega) with rfl | rfl | rfl | rfl | rfl | rfl | rfl | rfl | rfl | rfl | rfl | rfl | rfl | rfl | rfl <;> rfl
theorem fsX4 : ∀ j, j < 0 → defaultValue (tyX4 j) = vp_V [] j := fun j hj => absurd hj (Nat.not_lt_zero _)
theorem fsX5 : ∀ j, j < 0 → defaultValue (tyX5 j) = vp_V [] j := fun j hj => absurd hj (Nat.not_lt_zero _)
theorem fsX6 : ∀ j, j < 0 → defaultValue (tyX6 j) = vp_V [] j := fun j hj => absurd hj (Nat.not_lt_zero _)
theorem fsX7 : ∀ j, j < 3 → defaultValue (tyX7 j) = vp_V [.null, .int 0, .int 0] j := fun j hj => by rcases (show j = 0 ∨ j = 1 ∨ j = 2 by omega) with rfl | rfl | rfl <;> rfl
theorem fsX8 : ∀ j, j < 0 → defaultValue (tyX8 j) = vp_V [] j := fun j hj => absurd hj (Nat.not_lt_zero _)
theorem fsX9 : ∀ j, j < 6 → defaultValue (tyX9 j) = vp_V [.null, .int 0, .int 0, .int 0, .int 0, .int 0] j := fun j hj => by rcases (show j = 0 ∨ j = 1 ∨ j = 2 ∨ j = 3 ∨ j = 4 ∨ j = 5 by omega) with rfl | rfl | rfl | rfl | rfl | rfl <;> rfl
theorem fsX10 : ∀ j, j < 7 → defaultValue (tyX10 j) = vp_V [.null, .null, .null, .null, .null, .null, .int 0] j := fun j hj => by rcases (show j = 0 ∨ j = 1 ∨ j = 2 ∨ j = 3 ∨ j = 4 ∨ j = 5 ∨ j = 6 by omega) with rfl | rfl | rfl | rfl | rfl | rfl | rfl <;> rfl
theorem fsX11 : ∀ j, j < 18 → defaultValue (tyX11 j) = vp_V [.null, .null, .null, .null, .null, .null, .int 0, .int 0, .null, .int 0, .int 0, .int 0, .int 0, .int 0, .null, .null, .null, .null] j := fun j hj => by rcases (show j = 0 ∨ j = 1 ∨ j = 2 ∨ j = 3 ∨ j = 4 ∨ j = 5 ∨ j = 6 ∨ j = 7 ∨ j = 8 ∨ j = 9 ∨ j = 10 ∨ j = 11 ∨ j = 12 ∨ j = 13 ∨ j = 14 ∨ j = 15 ∨ j = 16 ∨ j = 17 by omega) with rfl | rfl | rfl | rfl | rfl | rfl | rfl | rfl | rfl | rfl | rfl | rfl | rfl | rfl | rfl | rfl | rfl | rfl <;> rfl
variable {G : GT} {l : Launch}
set_option maxHeartbeats 4000000 in
set_option maxRecDepth 100000 in
theorem c_X4_init {b0 : Nat} : Kn G l yX4_init cX4_init 1 (RMc 2 40 0 0) [.ref b0] [] (fun u : Unit => []) 0 0 := by
  refine Kn.of (by decide) (Nat.le_of_ble_eq_true rfl) ?_
  intro p e s m args below meth c A Q ls hx hb S0 hG hA hO h hin hret hl
  have S0 : CF p m c cX4_init 1 s args RX4 := S0
  have hin : meth.name = "<init>" := hin
  have hl : lv_has ls 1 [(0, .ref b0)] := hl
  refine lv_aload_n hx hb dX4_init_0 rfl (lv_at hl 0 rfl) ?_
  refine ct_obj S0 hl.1 (rin3 _ (List.mem_of_getElem? (i := 23) rfl)) (by decide) (Nat.le_of_ble_eq_true rfl) dX4_init_1 ?_
  exact hret () _ _ _ _ h dX4_init_4
