variable {G : GT} {l : Launch}
theorem kdS_X8_init : yX8_init.cls ≠ "java/lang/invoke/MethodHandle" ∧ yX8_init.cls ≠ "java/lang/invoke/VarHandle" ∧ (parseMethodDescriptor yX8_init.desc).map (fun d => d.parameters.length) = some 0 := ⟨by decide +kernel, by decide +kernel, by decide +kernel⟩
set_option maxHeartbeats 4000000 in
set_option maxRecDepth 100000 in
theorem c_X1_init {b0 : Nat} : Kn G l yX1_init cX1_init 1 (RMc 4 80 0 0) [.ref b0] [] (fun u : Unit => []) 0 0 := by
  refine Kn.of (by decide) (Nat.le_of_ble_eq_true rfl) ?_
  intro p e s m args below meth c A Q ls hx hb S0 hG hA hO h hin hret hl
  have S0 : CF p m c cX1_init 1 s args RX1 := S0
  have hin : meth.name = "<init>" := hin
  have hl : lv_has ls 1 [(0, .ref b0)] := hl
  refine lv_aload_n hx hb dX1_init_0 rfl (lv_at hl 0 rfl) ?_
  refine cI_n (wr := []) S0 hG hA hO h hl.1 (ws_ok (rin4 _ (List.mem_of_getElem? (i := 3) rfl))) (rin3 _ (List.mem_of_getElem? (i := 7) rfl)) (rin4 _ (List.mem_of_getElem? (i := 2) rfl)) (host := "ComposedInterval") (List.mem_of_getElem? (i := 11) rfl) kdS_X8_init rfl (c_X8_init (b0 := b0)) ⟨rfl, rfl, by decide, by decide, (Nat.le_of_ble_eq_true rfl), (Nat.le_of_ble_eq_true rfl)⟩ rfl [] [] (by decide) rfl rfl rfl (by decide) (by decide) rfl (Nat.le_of_ble_eq_true rfl) dX1_init_1 (fun u1 H locs h => ?_)
  have h : WX G A s _ _ ([]) := h
  exact hret () _ _ _ _ h dX1_init_4
