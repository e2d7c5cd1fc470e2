variable {G : GT} {l : Launch}
set_option maxHeartbeats 4000000 in
set_option maxRecDepth 100000 in
theorem c_X7_init {b0 : Nat} : Kn G l yX7_init cX7_init 1 (RMc 2 40 1 40) [.ref b0] [(b0, .inr (7, [.null, .int 0, .int 0]))] (fun u : Nat => [(b0, .inr (7, [.ref u, .int (nI 0), .int (nI 0)])), (u, .inl (gJ G, 40, .inr (.inl z8)))]) 1 40 := by
  refine Kn.of (by decide) (Nat.le_of_ble_eq_true rfl) ?_
  intro p e s m args below meth c A Q ls hx hb S0 hG hA hO h hin hret hl
  have S0 : CF p m c cX7_init 1 s args RX7 := S0
  have hin : meth.name = "<init>" := hin
  have hl : lv_has ls 1 [(0, .ref b0)] := hl
  refine lv_aload_n hx hb dX7_init_0 rfl (lv_at hl 0 rfl) ?_
  refine ct_obj S0 hl.1 (rin5 _ (List.mem_of_getElem? (i := 6) rfl)) (by decide) (Nat.le_of_ble_eq_true rfl) dX7_init_1 ?_
  refine lv_aload_n hx hb dX7_init_4 rfl (lv_at hl 0 rfl) ?_
  refine lv_bipush (v := nI 40) hx hb dX7_init_5 (by decide) ?_
  refine ct_newJ (N := 40) S0 hG hA h (by decide) (Nat.le_of_ble_eq_true rfl) (Nat.le_of_ble_eq_true rfl) dX7_init_7 (fun q1 H h => ?_)
  have h : WX G A s _ _ ([(b0, .inr (7, [.null, .int 0, .int 0])), (q1, .inl (gJ G, 40, .inr (.inl z8)))]) := h
  refine ct_putF (v := .ref q1) (ty := .array (.long)) S0 hG h inlX7 tyX7 tyX7_ok nmX7 0 rfl rfl 0 (by decide) (rin5 _ (List.mem_of_getElem? (i := 8) rfl)) (fun _ h => h) rfl hin rfl (by decide +kernel) rfl rfl (Nat.le_of_ble_eq_true rfl) dX7_init_9 (fun H locs h => ?_)
  have h : WX G A s _ _ ([(b0, .inr (7, [.ref q1, .int 0, .int 0])), (q1, .inl (gJ G, 40, .inr (.inl z8)))]) := h
  refine lv_aload_n hx hb dX7_init_12 rfl (lv_at hl 0 rfl) ?_
  refine lv_iconst (v := nI 0) hx hb dX7_init_13 (by decide) ?_
  refine ct_put (v := .int (nI 0)) (ty := .int) S0 hG h inlX7 tyX7 tyX7_ok nmX7 0 rfl rfl 1 (by decide) (rin5 _ (List.mem_of_getElem? (i := 9) rfl)) (fun _ h => h) rfl (by decide +kernel) rfl rfl (Nat.le_of_ble_eq_true rfl) dX7_init_14 (fun H locs h => ?_)
  have h : WX G A s _ _ ([(b0, .inr (7, [.ref q1, .int (nI 0), .int 0])), (q1, .inl (gJ G, 40, .inr (.inl z8)))]) := h
  refine lv_aload_n hx hb dX7_init_17 rfl (lv_at hl 0 rfl) ?_
  refine lv_iconst (v := nI 0) hx hb dX7_init_18 (by decide) ?_
  refine ct_put (v := .int (nI 0)) (ty := .int) S0 hG h inlX7 tyX7 tyX7_ok nmX7 0 rfl rfl 2 (by decide) (rin5 _ (List.mem_of_getElem? (i := 10) rfl)) (fun _ h => h) rfl (by decide +kernel) rfl rfl (Nat.le_of_ble_eq_true rfl) dX7_init_19 (fun H locs h => ?_)
  have h : WX G A s _ _ ([(b0, .inr (7, [.ref q1, .int (nI 0), .int (nI 0)])), (q1, .inl (gJ G, 40, .inr (.inl z8)))]) := h
  exact hret q1 _ _ _ _ h dX7_init_22
