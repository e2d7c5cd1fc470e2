variable {G : GT} {l : Launch}
set_option maxHeartbeats 4000000 in
set_option maxRecDepth 100000 in
theorem c_X9_init {b0 : Nat} : Kn G l yX9_init cX9_init 1 (RMc 2 40 1 120) [.ref b0] [(b0, .inr (9, [.null, .int 0, .int 0, .int 0, .int 0, .int 0]))] (fun u : Nat => [(b0, .inr (9, [.ref u, .int (nI 0), .int (nI 0), .int (nI 0), .int (nI 0), .int (nI 0)])), (u, .inl (gI G, 120, .inl (fun i => nI (z0 i))))]) 1 120 := by
  refine Kn.of (by decide) (Nat.le_of_ble_eq_true rfl) ?_
  intro p e s m args below meth c A Q ls hx hb S0 hG hA hO h hin hret hl
  have S0 : CF p m c cX9_init 1 s args RX9 := S0
  have hin : meth.name = "<init>" := hin
  have hl : lv_has ls 1 [(0, .ref b0)] := hl
  refine lv_aload_n hx hb dX9_init_0 rfl (lv_at hl 0 rfl) ?_
  refine ct_obj S0 hl.1 (rin2 _ (List.mem_of_getElem? (i := 11) rfl)) (by decide) (Nat.le_of_ble_eq_true rfl) dX9_init_1 ?_
  refine lv_aload_n hx hb dX9_init_4 rfl (lv_at hl 0 rfl) ?_
  refine lv_bipush (v := nI 120) hx hb dX9_init_5 (by decide) ?_
  refine ct_newI (N := 120) S0 hG hA h (by decide) (Nat.le_of_ble_eq_true rfl) (Nat.le_of_ble_eq_true rfl) dX9_init_7 (fun q1 H h => ?_)
  have h : WX G A s _ _ ([(b0, .inr (9, [.null, .int 0, .int 0, .int 0, .int 0, .int 0])), (q1, .inl (gI G, 120, .inl (fun i => nI (z0 i))))]) := h
  refine ct_putF (v := .ref q1) (ty := .array (.int)) S0 hG h inlX9 tyX9 tyX9_ok nmX9 0 rfl rfl 0 (by decide) (rin2 _ (List.mem_of_getElem? (i := 12) rfl)) (fun _ h => h) rfl hin rfl (by decide +kernel) rfl rfl (Nat.le_of_ble_eq_true rfl) dX9_init_9 (fun H locs h => ?_)
  have h : WX G A s _ _ ([(b0, .inr (9, [.ref q1, .int 0, .int 0, .int 0, .int 0, .int 0])), (q1, .inl (gI G, 120, .inl (fun i => nI (z0 i))))]) := h
  refine lv_aload_n hx hb dX9_init_12 rfl (lv_at hl 0 rfl) ?_
  refine lv_iconst (v := nI 0) hx hb dX9_init_13 (by decide) ?_
  refine ct_put (v := .int (nI 0)) (ty := .int) S0 hG h inlX9 tyX9 tyX9_ok nmX9 0 rfl rfl 1 (by decide) (rin2 _ (List.mem_of_getElem? (i := 13) rfl)) (fun _ h => h) rfl (by decide +kernel) rfl rfl (Nat.le_of_ble_eq_true rfl) dX9_init_14 (fun H locs h => ?_)
  have h : WX G A s _ _ ([(b0, .inr (9, [.ref q1, .int (nI 0), .int 0, .int 0, .int 0, .int 0])), (q1, .inl (gI G, 120, .inl (fun i => nI (z0 i))))]) := h
  refine lv_aload_n hx hb dX9_init_17 rfl (lv_at hl 0 rfl) ?_
  refine lv_iconst (v := nI 0) hx hb dX9_init_18 (by decide) ?_
  refine ct_put (v := .int (nI 0)) (ty := .int) S0 hG h inlX9 tyX9 tyX9_ok nmX9 0 rfl rfl 2 (by decide) (rin2 _ (List.mem_of_getElem? (i := 14) rfl)) (fun _ h => h) rfl (by decide +kernel) rfl rfl (Nat.le_of_ble_eq_true rfl) dX9_init_19 (fun H locs h => ?_)
  have h : WX G A s _ _ ([(b0, .inr (9, [.ref q1, .int (nI 0), .int (nI 0), .int 0, .int 0, .int 0])), (q1, .inl (gI G, 120, .inl (fun i => nI (z0 i))))]) := h
  refine lv_aload_n hx hb dX9_init_22 rfl (lv_at hl 0 rfl) ?_
  refine lv_iconst (v := nI 0) hx hb dX9_init_23 (by decide) ?_
  refine ct_put (v := .int (nI 0)) (ty := .int) S0 hG h inlX9 tyX9 tyX9_ok nmX9 0 rfl rfl 3 (by decide) (rin2 _ (List.mem_of_getElem? (i := 15) rfl)) (fun _ h => h) rfl (by decide +kernel) rfl rfl (Nat.le_of_ble_eq_true rfl) dX9_init_24 (fun H locs h => ?_)
  have h : WX G A s _ _ ([(b0, .inr (9, [.ref q1, .int (nI 0), .int (nI 0), .int (nI 0), .int 0, .int 0])), (q1, .inl (gI G, 120, .inl (fun i => nI (z0 i))))]) := h
  refine lv_aload_n hx hb dX9_init_27 rfl (lv_at hl 0 rfl) ?_
  refine lv_iconst (v := nI 0) hx hb dX9_init_28 (by decide) ?_
  refine ct_put (v := .int (nI 0)) (ty := .int) S0 hG h inlX9 tyX9 tyX9_ok nmX9 0 rfl rfl 4 (by decide) (rin2 _ (List.mem_of_getElem? (i := 16) rfl)) (fun _ h => h) rfl (by decide +kernel) rfl rfl (Nat.le_of_ble_eq_true rfl) dX9_init_29 (fun H locs h => ?_)
  have h : WX G A s _ _ ([(b0, .inr (9, [.ref q1, .int (nI 0), .int (nI 0), .int (nI 0), .int (nI 0), .int 0])), (q1, .inl (gI G, 120, .inl (fun i => nI (z0 i))))]) := h
  refine lv_aload_n hx hb dX9_init_32 rfl (lv_at hl 0 rfl) ?_
  refine lv_iconst (v := nI 0) hx hb dX9_init_33 (by decide) ?_
  refine ct_put (v := .int (nI 0)) (ty := .int) S0 hG h inlX9 tyX9 tyX9_ok nmX9 0 rfl rfl 5 (by decide) (rin2 _ (List.mem_of_getElem? (i := 17) rfl)) (fun _ h => h) rfl (by decide +kernel) rfl rfl (Nat.le_of_ble_eq_true rfl) dX9_init_34 (fun H locs h => ?_)
  have h : WX G A s _ _ ([(b0, .inr (9, [.ref q1, .int (nI 0), .int (nI 0), .int (nI 0), .int (nI 0), .int (nI 0)])), (q1, .inl (gI G, 120, .inl (fun i => nI (z0 i))))]) := h
  exact hret q1 _ _ _ _ h dX9_init_37
