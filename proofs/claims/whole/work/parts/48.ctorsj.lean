variable {G : GT} {l : Launch}
set_option maxHeartbeats 4000000 in
set_option maxRecDepth 100000 in
theorem c_X3_init {b0 c0 : Nat} : Kn G l yX3_init cX3_init 3 (RMc 2 40 8 57) [.ref b0, .ref c0] [(b0, .inr (3, [.null, .null, .null, .null, .null, .null, .null, .null, .int 0, .int 0, .int 0, .int 0, .int 0, .null, .int 0]))] (fun u : Nat → Nat => [(b0, .inr (3, [.ref (c0), .ref (u 1), .ref (u 2), .ref (u 3), .ref (u 4), .ref (u 5), .ref (u 6), .ref (u 7), .int (nI (f0 0)), .int (nI (f0 1)), .int (nI 0), .int (nI 0), .int (-1), .ref (u 8), .int (nI 0)])), (u 1, .inl (gI G, 6, .inl (fun i => nI (sc f0 i)))), (u 2, .inl (gI G, 3, .inl (fun i => nI (be f0 i)))), (u 3, .inl (gI G, 8, .inl (fun i => nI (its f0 i 0)))), (u 4, .inl (gI G, 8, .inl (fun i => nI (its f0 i 1)))), (u 5, .inl (gI G, 8, .inl (fun i => nI (its f0 i 2)))), (u 6, .inl (gI G, 8, .inl (fun i => nI (its f0 i 3)))), (u 7, .inl (gI G, 8, .inl (fun i => nI (its f0 i 4)))), (u 8, .inl (gI G, 8, .inl (fun i => nI (z0 i))))]) 8 57 := by
  refine Kn.of (by decide) (Nat.le_of_ble_eq_true rfl) ?_
  intro p e s m args below meth c A Q ls hx hb S0 hG hA hO h hin hret hl
  have S0 : CF p m c cX3_init 3 s args RX3 := S0
  have hin : meth.name = "<init>" := hin
  have hl : lv_has ls 3 [(0, .ref b0), (1, .ref c0)] := hl
  refine lv_aload_n hx hb dX3_init_0 rfl (lv_at hl 0 rfl) ?_
  refine ct_obj S0 hl.1 (rin4 _ (List.mem_of_getElem? (i := 12) rfl)) (by decide) (Nat.le_of_ble_eq_true rfl) dX3_init_1 ?_
  refine lv_aload_n hx hb dX3_init_4 rfl (lv_at hl 0 rfl) ?_
  refine lv_bipush (v := nI 6) hx hb dX3_init_5 (by decide) ?_
  refine ct_newI (N := 6) S0 hG hA h (by decide) (Nat.le_of_ble_eq_true rfl) (Nat.le_of_ble_eq_true rfl) dX3_init_7 (fun q1 H h => ?_)
  have h : WX G A s _ _ ([(b0, .inr (3, [.null, .null, .null, .null, .null, .null, .null, .null, .int 0, .int 0, .int 0, .int 0, .int 0, .null, .int 0])), (q1, .inl (gI G, 6, .inl (fun i => nI (z0 i))))]) := h
  refine ct_putF (v := .ref q1) (ty := .array (.int)) S0 hG h inlX3 tyX3 tyX3_ok nmX3 0 rfl rfl 1 (by decide) (rin4 _ (List.mem_of_getElem? (i := 13) rfl)) (fun _ h => h) rfl hin rfl (by decide +kernel) rfl rfl (Nat.le_of_ble_eq_true rfl) dX3_init_9 (fun H locs h => ?_)
  have h : WX G A s _ _ ([(b0, .inr (3, [.null, .ref q1, .null, .null, .null, .null, .null, .null, .int 0, .int 0, .int 0, .int 0, .int 0, .null, .int 0])), (q1, .inl (gI G, 6, .inl (fun i => nI (z0 i))))]) := h
  refine lv_aload_n hx hb dX3_init_12 rfl (lv_at hl 0 rfl) ?_
  refine lv_iconst (v := nI 3) hx hb dX3_init_13 (by decide) ?_
  refine ct_newI (N := 3) S0 hG hA h (by decide) (Nat.le_of_ble_eq_true rfl) (Nat.le_of_ble_eq_true rfl) dX3_init_14 (fun q2 H h => ?_)
  have h : WX G A s _ _ ([(b0, .inr (3, [.null, .ref q1, .null, .null, .null, .null, .null, .null, .int 0, .int 0, .int 0, .int 0, .int 0, .null, .int 0])), (q1, .inl (gI G, 6, .inl (fun i => nI (z0 i)))), (q2, .inl (gI G, 3, .inl (fun i => nI (z0 i))))]) := h
  refine ct_putF (v := .ref q2) (ty := .array (.int)) S0 hG h inlX3 tyX3 tyX3_ok nmX3 0 rfl rfl 2 (by decide) (rin4 _ (List.mem_of_getElem? (i := 14) rfl)) (fun _ h => h) rfl hin rfl (by decide +kernel) rfl rfl (Nat.le_of_ble_eq_true rfl) dX3_init_16 (fun H locs h => ?_)
  have h : WX G A s _ _ ([(b0, .inr (3, [.null, .ref q1, .ref q2, .null, .null, .null, .null, .null, .int 0, .int 0, .int 0, .int 0, .int 0, .null, .int 0])), (q1, .inl (gI G, 6, .inl (fun i => nI (z0 i)))), (q2, .inl (gI G, 3, .inl (fun i => nI (z0 i))))]) := h
  refine lv_aload_n hx hb dX3_init_19 rfl (lv_at hl 0 rfl) ?_
  refine lv_bipush (v := nI 8) hx hb dX3_init_20 (by decide) ?_
  refine ct_newI (N := 8) S0 hG hA h (by decide) (Nat.le_of_ble_eq_true rfl) (Nat.le_of_ble_eq_true rfl) dX3_init_22 (fun q3 H h => ?_)
  have h : WX G A s _ _ ([(b0, .inr (3, [.null, .ref q1, .ref q2, .null, .null, .null, .null, .null, .int 0, .int 0, .int 0, .int 0, .int 0, .null, .int 0])), (q1, .inl (gI G, 6, .inl (fun i => nI (z0 i)))), (q2, .inl (gI G, 3, .inl (fun i => nI (z0 i)))), (q3, .inl (gI G, 8, .inl (fun i => nI (z0 i))))]) := h
  refine ct_putF (v := .ref q3) (ty := .array (.int)) S0 hG h inlX3 tyX3 tyX3_ok nmX3 0 rfl rfl 3 (by decide) (rin4 _ (List.mem_of_getElem? (i := 15) rfl)) (fun _ h => h) rfl hin rfl (by decide +kernel) rfl rfl (Nat.le_of_ble_eq_true rfl) dX3_init_24 (fun H locs h => ?_)
  have h : WX G A s _ _ ([(b0, .inr (3, [.null, .ref q1, .ref q2, .ref q3, .null, .null, .null, .null, .int 0, .int 0, .int 0, .int 0, .int 0, .null, .int 0])), (q1, .inl (gI G, 6, .inl (fun i => nI (z0 i)))), (q2, .inl (gI G, 3, .inl (fun i => nI (z0 i)))), (q3, .inl (gI G, 8, .inl (fun i => nI (z0 i))))]) := h
  refine lv_aload_n hx hb dX3_init_27 rfl (lv_at hl 0 rfl) ?_
  refine lv_bipush (v := nI 8) hx hb dX3_init_28 (by decide) ?_
  refine ct_newI (N := 8) S0 hG hA h (by decide) (Nat.le_of_ble_eq_true rfl) (Nat.le_of_ble_eq_true rfl) dX3_init_30 (fun q4 H h => ?_)
  have h : WX G A s _ _ ([(b0, .inr (3, [.null, .ref q1, .ref q2, .ref q3, .null, .null, .null, .null, .int 0, .int 0, .int 0, .int 0, .int 0, .null, .int 0])), (q1, .inl (gI G, 6, .inl (fun i => nI (z0 i)))), (q2, .inl (gI G, 3, .inl (fun i => nI (z0 i)))), (q3, .inl (gI G, 8, .inl (fun i => nI (z0 i)))), (q4, .inl (gI G, 8, .inl (fun i => nI (z0 i))))]) := h
  refine ct_putF (v := .ref q4) (ty := .array (.int)) S0 hG h inlX3 tyX3 tyX3_ok nmX3 0 rfl rfl 4 (by decide) (rin4 _ (List.mem_of_getElem? (i := 16) rfl)) (fun _ h => h) rfl hin rfl (by decide +kernel) rfl rfl (Nat.le_of_ble_eq_true rfl) dX3_init_32 (fun H locs h => ?_)
  have h : WX G A s _ _ ([(b0, .inr (3, [.null, .ref q1, .ref q2, .ref q3, .ref q4, .null, .null, .null, .int 0, .int 0, .int 0, .int 0, .int 0, .null, .int 0])), (q1, .inl (gI G, 6, .inl (fun i => nI (z0 i)))), (q2, .inl (gI G, 3, .inl (fun i => nI (z0 i)))), (q3, .inl (gI G, 8, .inl (fun i => nI (z0 i)))), (q4, .inl (gI G, 8, .inl (fun i => nI (z0 i))))]) := h
  refine lv_aload_n hx hb dX3_init_35 rfl (lv_at hl 0 rfl) ?_
  refine lv_bipush (v := nI 8) hx hb dX3_init_36 (by decide) ?_
  refine ct_newI (N := 8) S0 hG hA h (by decide) (Nat.le_of_ble_eq_true rfl) (Nat.le_of_ble_eq_true rfl) dX3_init_38 (fun q5 H h => ?_)
  have h : WX G A s _ _ ([(b0, .inr (3, [.null, .ref q1, .ref q2, .ref q3, .ref q4, .null, .null, .null, .int 0, .int 0, .int 0, .int 0, .int 0, .null, .int 0])), (q1, .inl (gI G, 6, .inl (fun i => nI (z0 i)))), (q2, .inl (gI G, 3, .inl (fun i => nI (z0 i)))), (q3, .inl (gI G, 8, .inl (fun i => nI (z0 i)))), (q4, .inl (gI G, 8, .inl (fun i => nI (z0 i)))), (q5, .inl (gI G, 8, .inl (fun i => nI (z0 i))))]) := h
  refine ct_putF (v := .ref q5) (ty := .array (.int)) S0 hG h inlX3 tyX3 tyX3_ok nmX3 0 rfl rfl 5 (by decide) (rin4 _ (List.mem_of_getElem? (i := 17) rfl)) (fun _ h => h) rfl hin rfl (by decide +kernel) rfl rfl (Nat.le_of_ble_eq_true rfl) dX3_init_40 (fun H locs h => ?_)
  have h : WX G A s _ _ ([(b0, .inr (3, [.null, .ref q1, .ref q2, .ref q3, .ref q4, .ref q5, .null, .null, .int 0, .int 0, .int 0, .int 0, .int 0, .null, .int 0])), (q1, .inl (gI G, 6, .inl (fun i => nI (z0 i)))), (q2, .inl (gI G, 3, .inl (fun i => nI (z0 i)))), (q3, .inl (gI G, 8, .inl (fun i => nI (z0 i)))), (q4, .inl (gI G, 8, .inl (fun i => nI (z0 i)))), (q5, .inl (gI G, 8, .inl (fun i => nI (z0 i))))]) := h
  refine lv_aload_n hx hb dX3_init_43 rfl (lv_at hl 0 rfl) ?_
  refine lv_bipush (v := nI 8) hx hb dX3_init_44 (by decide) ?_
  refine ct_newI (N := 8) S0 hG hA h (by decide) (Nat.le_of_ble_eq_true rfl) (Nat.le_of_ble_eq_true rfl) dX3_init_46 (fun q6 H h => ?_)
  have h : WX G A s _ _ ([(b0, .inr (3, [.null, .ref q1, .ref q2, .ref q3, .ref q4, .ref q5, .null, .null, .int 0, .int 0, .int 0, .int 0, .int 0, .null, .int 0])), (q1, .inl (gI G, 6, .inl (fun i => nI (z0 i)))), (q2, .inl (gI G, 3, .inl (fun i => nI (z0 i)))), (q3, .inl (gI G, 8, .inl (fun i => nI (z0 i)))), (q4, .inl (gI G, 8, .inl (fun i => nI (z0 i)))), (q5, .inl (gI G, 8, .inl (fun i => nI (z0 i)))), (q6, .inl (gI G, 8, .inl (fun i => nI (z0 i))))]) := h
  refine ct_putF (v := .ref q6) (ty := .array (.int)) S0 hG h inlX3 tyX3 tyX3_ok nmX3 0 rfl rfl 6 (by decide) (rin4 _ (List.mem_of_getElem? (i := 18) rfl)) (fun _ h => h) rfl hin rfl (by decide +kernel) rfl rfl (Nat.le_of_ble_eq_true rfl) dX3_init_48 (fun H locs h => ?_)
  have h : WX G A s _ _ ([(b0, .inr (3, [.null, .ref q1, .ref q2, .ref q3, .ref q4, .ref q5, .ref q6, .null, .int 0, .int 0, .int 0, .int 0, .int 0, .null, .int 0])), (q1, .inl (gI G, 6, .inl (fun i => nI (z0 i)))), (q2, .inl (gI G, 3, .inl (fun i => nI (z0 i)))), (q3, .inl (gI G, 8, .inl (fun i => nI (z0 i)))), (q4, .inl (gI G, 8, .inl (fun i => nI (z0 i)))), (q5, .inl (gI G, 8, .inl (fun i => nI (z0 i)))), (q6, .inl (gI G, 8, .inl (fun i => nI (z0 i))))]) := h
  refine lv_aload_n hx hb dX3_init_51 rfl (lv_at hl 0 rfl) ?_
  refine lv_bipush (v := nI 8) hx hb dX3_init_52 (by decide) ?_
  refine ct_newI (N := 8) S0 hG hA h (by decide) (Nat.le_of_ble_eq_true rfl) (Nat.le_of_ble_eq_true rfl) dX3_init_54 (fun q7 H h => ?_)
  have h : WX G A s _ _ ([(b0, .inr (3, [.null, .ref q1, .ref q2, .ref q3, .ref q4, .ref q5, .ref q6, .null, .int 0, .int 0, .int 0, .int 0, .int 0, .null, .int 0])), (q1, .inl (gI G, 6, .inl (fun i => nI (z0 i)))), (q2, .inl (gI G, 3, .inl (fun i => nI (z0 i)))), (q3, .inl (gI G, 8, .inl (fun i => nI (z0 i)))), (q4, .inl (gI G, 8, .inl (fun i => nI (z0 i)))), (q5, .inl (gI G, 8, .inl (fun i => nI (z0 i)))), (q6, .inl (gI G, 8, .inl (fun i => nI (z0 i)))), (q7, .inl (gI G, 8, .inl (fun i => nI (z0 i))))]) := h
  refine ct_putF (v := .ref q7) (ty := .array (.int)) S0 hG h inlX3 tyX3 tyX3_ok nmX3 0 rfl rfl 7 (by decide) (rin4 _ (List.mem_of_getElem? (i := 19) rfl)) (fun _ h => h) rfl hin rfl (by decide +kernel) rfl rfl (Nat.le_of_ble_eq_true rfl) dX3_init_56 (fun H locs h => ?_)
  have h : WX G A s _ _ ([(b0, .inr (3, [.null, .ref q1, .ref q2, .ref q3, .ref q4, .ref q5, .ref q6, .ref q7, .int 0, .int 0, .int 0, .int 0, .int 0, .null, .int 0])), (q1, .inl (gI G, 6, .inl (fun i => nI (z0 i)))), (q2, .inl (gI G, 3, .inl (fun i => nI (z0 i)))), (q3, .inl (gI G, 8, .inl (fun i => nI (z0 i)))), (q4, .inl (gI G, 8, .inl (fun i => nI (z0 i)))), (q5, .inl (gI G, 8, .inl (fun i => nI (z0 i)))), (q6, .inl (gI G, 8, .inl (fun i => nI (z0 i)))), (q7, .inl (gI G, 8, .inl (fun i => nI (z0 i))))]) := h
  refine lv_aload_n hx hb dX3_init_59 rfl (lv_at hl 0 rfl) ?_
  refine lv_iconst (v := nI 0) hx hb dX3_init_60 (by decide) ?_
  refine ct_put (v := .int (nI 0)) (ty := .int) S0 hG h inlX3 tyX3 tyX3_ok nmX3 0 rfl rfl 8 (by decide) (rin4 _ (List.mem_of_getElem? (i := 20) rfl)) (fun _ h => h) rfl (by decide +kernel) rfl rfl (Nat.le_of_ble_eq_true rfl) dX3_init_61 (fun H locs h => ?_)
  have h : WX G A s _ _ ([(b0, .inr (3, [.null, .ref q1, .ref q2, .ref q3, .ref q4, .ref q5, .ref q6, .ref q7, .int (nI 0), .int 0, .int 0, .int 0, .int 0, .null, .int 0])), (q1, .inl (gI G, 6, .inl (fun i => nI (z0 i)))), (q2, .inl (gI G, 3, .inl (fun i => nI (z0 i)))), (q3, .inl (gI G, 8, .inl (fun i => nI (z0 i)))), (q4, .inl (gI G, 8, .inl (fun i => nI (z0 i)))), (q5, .inl (gI G, 8, .inl (fun i => nI (z0 i)))), (q6, .inl (gI G, 8, .inl (fun i => nI (z0 i)))), (q7, .inl (gI G, 8, .inl (fun i => nI (z0 i))))]) := h
  refine lv_aload_n hx hb dX3_init_64 rfl (lv_at hl 0 rfl) ?_
  refine lv_iconst (v := nI 0) hx hb dX3_init_65 (by decide) ?_
  refine ct_put (v := .int (nI 0)) (ty := .int) S0 hG h inlX3 tyX3 tyX3_ok nmX3 0 rfl rfl 9 (by decide) (rin4 _ (List.mem_of_getElem? (i := 21) rfl)) (fun _ h => h) rfl (by decide +kernel) rfl rfl (Nat.le_of_ble_eq_true rfl) dX3_init_66 (fun H locs h => ?_)
  have h : WX G A s _ _ ([(b0, .inr (3, [.null, .ref q1, .ref q2, .ref q3, .ref q4, .ref q5, .ref q6, .ref q7, .int (nI 0), .int (nI 0), .int 0, .int 0, .int 0, .null, .int 0])), (q1, .inl (gI G, 6, .inl (fun i => nI (z0 i)))), (q2, .inl (gI G, 3, .inl (fun i => nI (z0 i)))), (q3, .inl (gI G, 8, .inl (fun i => nI (z0 i)))), (q4, .inl (gI G, 8, .inl (fun i => nI (z0 i)))), (q5, .inl (gI G, 8, .inl (fun i => nI (z0 i)))), (q6, .inl (gI G, 8, .inl (fun i => nI (z0 i)))), (q7, .inl (gI G, 8, .inl (fun i => nI (z0 i))))]) := h
  refine lv_aload_n hx hb dX3_init_69 rfl (lv_at hl 0 rfl) ?_
  refine lv_iconst (v := nI 0) hx hb dX3_init_70 (by decide) ?_
  refine ct_put (v := .int (nI 0)) (ty := .int) S0 hG h inlX3 tyX3 tyX3_ok nmX3 0 rfl rfl 10 (by decide) (rin4 _ (List.mem_of_getElem? (i := 22) rfl)) (fun _ h => h) rfl (by decide +kernel) rfl rfl (Nat.le_of_ble_eq_true rfl) dX3_init_71 (fun H locs h => ?_)
  have h : WX G A s _ _ ([(b0, .inr (3, [.null, .ref q1, .ref q2, .ref q3, .ref q4, .ref q5, .ref q6, .ref q7, .int (nI 0), .int (nI 0), .int (nI 0), .int 0, .int 0, .null, .int 0])), (q1, .inl (gI G, 6, .inl (fun i => nI (z0 i)))), (q2, .inl (gI G, 3, .inl (fun i => nI (z0 i)))), (q3, .inl (gI G, 8, .inl (fun i => nI (z0 i)))), (q4, .inl (gI G, 8, .inl (fun i => nI (z0 i)))), (q5, .inl (gI G, 8, .inl (fun i => nI (z0 i)))), (q6, .inl (gI G, 8, .inl (fun i => nI (z0 i)))), (q7, .inl (gI G, 8, .inl (fun i => nI (z0 i))))]) := h
  refine lv_aload_n hx hb dX3_init_74 rfl (lv_at hl 0 rfl) ?_
  refine lv_iconst (v := nI 0) hx hb dX3_init_75 (by decide) ?_
  refine ct_put (v := .int (nI 0)) (ty := .int) S0 hG h inlX3 tyX3 tyX3_ok nmX3 0 rfl rfl 11 (by decide) (rin4 _ (List.mem_of_getElem? (i := 23) rfl)) (fun _ h => h) rfl (by decide +kernel) rfl rfl (Nat.le_of_ble_eq_true rfl) dX3_init_76 (fun H locs h => ?_)
  have h : WX G A s _ _ ([(b0, .inr (3, [.null, .ref q1, .ref q2, .ref q3, .ref q4, .ref q5, .ref q6, .ref q7, .int (nI 0), .int (nI 0), .int (nI 0), .int (nI 0), .int 0, .null, .int 0])), (q1, .inl (gI G, 6, .inl (fun i => nI (z0 i)))), (q2, .inl (gI G, 3, .inl (fun i => nI (z0 i)))), (q3, .inl (gI G, 8, .inl (fun i => nI (z0 i)))), (q4, .inl (gI G, 8, .inl (fun i => nI (z0 i)))), (q5, .inl (gI G, 8, .inl (fun i => nI (z0 i)))), (q6, .inl (gI G, 8, .inl (fun i => nI (z0 i)))), (q7, .inl (gI G, 8, .inl (fun i => nI (z0 i))))]) := h
  refine lv_aload_n hx hb dX3_init_79 rfl (lv_at hl 0 rfl) ?_
  refine lv_iconst (v := -1) hx hb dX3_init_80 (by decide) ?_
  refine ct_put (v := .int (-1)) (ty := .int) S0 hG h inlX3 tyX3 tyX3_ok nmX3 0 rfl rfl 12 (by decide) (rin5 _ (List.mem_of_getElem? (i := 0) rfl)) (fun _ h => h) rfl (by decide +kernel) rfl rfl (Nat.le_of_ble_eq_true rfl) dX3_init_81 (fun H locs h => ?_)
  have h : WX G A s _ _ ([(b0, .inr (3, [.null, .ref q1, .ref q2, .ref q3, .ref q4, .ref q5, .ref q6, .ref q7, .int (nI 0), .int (nI 0), .int (nI 0), .int (nI 0), .int (-1), .null, .int 0])), (q1, .inl (gI G, 6, .inl (fun i => nI (z0 i)))), (q2, .inl (gI G, 3, .inl (fun i => nI (z0 i)))), (q3, .inl (gI G, 8, .inl (fun i => nI (z0 i)))), (q4, .inl (gI G, 8, .inl (fun i => nI (z0 i)))), (q5, .inl (gI G, 8, .inl (fun i => nI (z0 i)))), (q6, .inl (gI G, 8, .inl (fun i => nI (z0 i)))), (q7, .inl (gI G, 8, .inl (fun i => nI (z0 i))))]) := h
  refine lv_aload_n hx hb dX3_init_84 rfl (lv_at hl 0 rfl) ?_
  refine lv_bipush (v := nI 8) hx hb dX3_init_85 (by decide) ?_
  refine ct_newI (N := 8) S0 hG hA h (by decide) (Nat.le_of_ble_eq_true rfl) (Nat.le_of_ble_eq_true rfl) dX3_init_87 (fun q8 H h => ?_)
  have h : WX G A s _ _ ([(b0, .inr (3, [.null, .ref q1, .ref q2, .ref q3, .ref q4, .ref q5, .ref q6, .ref q7, .int (nI 0), .int (nI 0), .int (nI 0), .int (nI 0), .int (-1), .null, .int 0])), (q1, .inl (gI G, 6, .inl (fun i => nI (z0 i)))), (q2, .inl (gI G, 3, .inl (fun i => nI (z0 i)))), (q3, .inl (gI G, 8, .inl (fun i => nI (z0 i)))), (q4, .inl (gI G, 8, .inl (fun i => nI (z0 i)))), (q5, .inl (gI G, 8, .inl (fun i => nI (z0 i)))), (q6, .inl (gI G, 8, .inl (fun i => nI (z0 i)))), (q7, .inl (gI G, 8, .inl (fun i => nI (z0 i)))), (q8, .inl (gI G, 8, .inl (fun i => nI (z0 i))))]) := h
  refine ct_putF (v := .ref q8) (ty := .array (.int)) S0 hG h inlX3 tyX3 tyX3_ok nmX3 0 rfl rfl 13 (by decide) (rin5 _ (List.mem_of_getElem? (i := 1) rfl)) (fun _ h => h) rfl hin rfl (by decide +kernel) rfl rfl (Nat.le_of_ble_eq_true rfl) dX3_init_89 (fun H locs h => ?_)
  have h : WX G A s _ _ ([(b0, .inr (3, [.null, .ref q1, .ref q2, .ref q3, .ref q4, .ref q5, .ref q6, .ref q7, .int (nI 0), .int (nI 0), .int (nI 0), .int (nI 0), .int (-1), .ref q8, .int 0])), (q1, .inl (gI G, 6, .inl (fun i => nI (z0 i)))), (q2, .inl (gI G, 3, .inl (fun i => nI (z0 i)))), (q3, .inl (gI G, 8, .inl (fun i => nI (z0 i)))), (q4, .inl (gI G, 8, .inl (fun i => nI (z0 i)))), (q5, .inl (gI G, 8, .inl (fun i => nI (z0 i)))), (q6, .inl (gI G, 8, .inl (fun i => nI (z0 i)))), (q7, .inl (gI G, 8, .inl (fun i => nI (z0 i)))), (q8, .inl (gI G, 8, .inl (fun i => nI (z0 i))))]) := h
  refine lv_aload_n hx hb dX3_init_92 rfl (lv_at hl 0 rfl) ?_
  refine lv_iconst (v := nI 0) hx hb dX3_init_93 (by decide) ?_
  refine ct_put (v := .int (nI 0)) (ty := .int) S0 hG h inlX3 tyX3 tyX3_ok nmX3 0 rfl rfl 14 (by decide) (rin5 _ (List.mem_of_getElem? (i := 2) rfl)) (fun _ h => h) rfl (by decide +kernel) rfl rfl (Nat.le_of_ble_eq_true rfl) dX3_init_94 (fun H locs h => ?_)
  have h : WX G A s _ _ ([(b0, .inr (3, [.null, .ref q1, .ref q2, .ref q3, .ref q4, .ref q5, .ref q6, .ref q7, .int (nI 0), .int (nI 0), .int (nI 0), .int (nI 0), .int (-1), .ref q8, .int (nI 0)])), (q1, .inl (gI G, 6, .inl (fun i => nI (z0 i)))), (q2, .inl (gI G, 3, .inl (fun i => nI (z0 i)))), (q3, .inl (gI G, 8, .inl (fun i => nI (z0 i)))), (q4, .inl (gI G, 8, .inl (fun i => nI (z0 i)))), (q5, .inl (gI G, 8, .inl (fun i => nI (z0 i)))), (q6, .inl (gI G, 8, .inl (fun i => nI (z0 i)))), (q7, .inl (gI G, 8, .inl (fun i => nI (z0 i)))), (q8, .inl (gI G, 8, .inl (fun i => nI (z0 i))))]) := h
  refine lv_aload_n hx hb dX3_init_97 rfl (lv_at hl 0 rfl) ?_
  refine lv_aload_n hx hb dX3_init_98 rfl (lv_at hl 1 rfl) ?_
  refine ct_putF (v := .ref c0) (ty := .object "ComposedInterval$Cast") S0 hG h inlX3 tyX3 tyX3_ok nmX3 0 rfl rfl 0 (by decide) (rin5 _ (List.mem_of_getElem? (i := 3) rfl)) (fun _ h => h) rfl hin rfl (by decide +kernel) rfl rfl (Nat.le_of_ble_eq_true rfl) dX3_init_99 (fun H locs h => ?_)
  have h : WX G A s _ _ ([(b0, .inr (3, [.ref c0, .ref q1, .ref q2, .ref q3, .ref q4, .ref q5, .ref q6, .ref q7, .int (nI 0), .int (nI 0), .int (nI 0), .int (nI 0), .int (-1), .ref q8, .int (nI 0)])), (q1, .inl (gI G, 6, .inl (fun i => nI (z0 i)))), (q2, .inl (gI G, 3, .inl (fun i => nI (z0 i)))), (q3, .inl (gI G, 8, .inl (fun i => nI (z0 i)))), (q4, .inl (gI G, 8, .inl (fun i => nI (z0 i)))), (q5, .inl (gI G, 8, .inl (fun i => nI (z0 i)))), (q6, .inl (gI G, 8, .inl (fun i => nI (z0 i)))), (q7, .inl (gI G, 8, .inl (fun i => nI (z0 i)))), (q8, .inl (gI G, 8, .inl (fun i => nI (z0 i))))]) := h
  refine lv_iconst (v := nI 0) hx hb dX3_init_102 (by decide) ?_
  refine lv_istore_n hx hb dX3_init_103 rfl hl (by decide) rfl (fun ls hl => ?_)
  refine lv_iload_n hx hb dX3_init_104 rfl (lv_at hl 0 rfl) ?_
  refine lv_bipush (v := nI 6) hx hb dX3_init_105 (by decide) ?_
  refine n_cge hx hb (by decide) (by decide) (tgt := 128) dX3_init_107 (by decide) (fun q => absurd q (by decide)) (fun _ => ?_)
  refine lv_aload_n hx hb dX3_init_110 rfl (lv_at hl 1 rfl) ?_
  refine ct_get (v := .ref q1) S0 hG h inlX3 0 rfl rfl 1 (by decide) (rin4 _ (List.mem_of_getElem? (i := 13) rfl)) (fun _ h => h) rfl dX3_init_111 ?_
  refine lv_iload_n hx hb dX3_init_114 rfl (lv_at hl 0 rfl) ?_
  refine lv_iconst (v := nI 5) hx hb dX3_init_115 (by decide) ?_
  refine lv_iload_n hx hb dX3_init_116 rfl (lv_at hl 0 rfl) ?_
  refine n_mul hx hb dX3_init_117 ?_
  refine lv_bipush (v := nI 12) hx hb dX3_init_118 (by decide) ?_
  refine n_rem hx hb (by omega) (by decide) (by decide) dX3_init_120 ?_
  refine ct_iast S0 hG h 1 rfl (by decide) (by decide) dX3_init_121 (fun H locs h => ?_)
  have h : WX G A s _ _ ([(b0, .inr (3, [.ref c0, .ref q1, .ref q2, .ref q3, .ref q4, .ref q5, .ref q6, .ref q7, .int (nI 0), .int (nI 0), .int (nI 0), .int (nI 0), .int (-1), .ref q8, .int (nI 0)])), (q1, .inl (gI G, 6, .inl (fun i => nI ((va_up (z0) 0 0) i)))), (q2, .inl (gI G, 3, .inl (fun i => nI (z0 i)))), (q3, .inl (gI G, 8, .inl (fun i => nI (z0 i)))), (q4, .inl (gI G, 8, .inl (fun i => nI (z0 i)))), (q5, .inl (gI G, 8, .inl (fun i => nI (z0 i)))), (q6, .inl (gI G, 8, .inl (fun i => nI (z0 i)))), (q7, .inl (gI G, 8, .inl (fun i => nI (z0 i)))), (q8, .inl (gI G, 8, .inl (fun i => nI (z0 i))))]) := h
  refine lv_iinc hx hb dX3_init_122 hl (k := 0) rfl (inc_1 _) (by decide) rfl (fun ls hl => ?_)
  refine lv_goto (tgt := 104) hx hb dX3_init_125 (by decide) ?_
  refine lv_iload_n hx hb dX3_init_104 rfl (lv_at hl 0 rfl) ?_
  refine lv_bipush (v := nI 6) hx hb dX3_init_105 (by decide) ?_
  refine n_cge hx hb (by decide) (by decide) (tgt := 128) dX3_init_107 (by decide) (fun q => absurd q (by decide)) (fun _ => ?_)
  refine lv_aload_n hx hb dX3_init_110 rfl (lv_at hl 1 rfl) ?_
  refine ct_get (v := .ref q1) S0 hG h inlX3 0 rfl rfl 1 (by decide) (rin4 _ (List.mem_of_getElem? (i := 13) rfl)) (fun _ h => h) rfl dX3_init_111 ?_
  refine lv_iload_n hx hb dX3_init_114 rfl (lv_at hl 0 rfl) ?_
  refine lv_iconst (v := nI 5) hx hb dX3_init_115 (by decide) ?_
  refine lv_iload_n hx hb dX3_init_116 rfl (lv_at hl 0 rfl) ?_
  refine n_mul hx hb dX3_init_117 ?_
  refine lv_bipush (v := nI 12) hx hb dX3_init_118 (by decide) ?_
  refine n_rem hx hb (by omega) (by decide) (by decide) dX3_init_120 ?_
  refine ct_iast S0 hG h 1 rfl (by decide) (by decide) dX3_init_121 (fun H locs h => ?_)
  have h : WX G A s _ _ ([(b0, .inr (3, [.ref c0, .ref q1, .ref q2, .ref q3, .ref q4, .ref q5, .ref q6, .ref q7, .int (nI 0), .int (nI 0), .int (nI 0), .int (nI 0), .int (-1), .ref q8, .int (nI 0)])), (q1, .inl (gI G, 6, .inl (fun i => nI ((va_up ((va_up (z0) 0 0)) 1 5) i)))), (q2, .inl (gI G, 3, .inl (fun i => nI (z0 i)))), (q3, .inl (gI G, 8, .inl (fun i => nI (z0 i)))), (q4, .inl (gI G, 8, .inl (fun i => nI (z0 i)))), (q5, .inl (gI G, 8, .inl (fun i => nI (z0 i)))), (q6, .inl (gI G, 8, .inl (fun i => nI (z0 i)))), (q7, .inl (gI G, 8, .inl (fun i => nI (z0 i)))), (q8, .inl (gI G, 8, .inl (fun i => nI (z0 i))))]) := h
  refine lv_iinc hx hb dX3_init_122 hl (k := 0) rfl (inc_1 _) (by decide) rfl (fun ls hl => ?_)
  refine lv_goto (tgt := 104) hx hb dX3_init_125 (by decide) ?_
  refine lv_iload_n hx hb dX3_init_104 rfl (lv_at hl 0 rfl) ?_
  refine lv_bipush (v := nI 6) hx hb dX3_init_105 (by decide) ?_
  refine n_cge hx hb (by decide) (by decide) (tgt := 128) dX3_init_107 (by decide) (fun q => absurd q (by decide)) (fun _ => ?_)
  refine lv_aload_n hx hb dX3_init_110 rfl (lv_at hl 1 rfl) ?_
  refine ct_get (v := .ref q1) S0 hG h inlX3 0 rfl rfl 1 (by decide) (rin4 _ (List.mem_of_getElem? (i := 13) rfl)) (fun _ h => h) rfl dX3_init_111 ?_
  refine lv_iload_n hx hb dX3_init_114 rfl (lv_at hl 0 rfl) ?_
  refine lv_iconst (v := nI 5) hx hb dX3_init_115 (by decide) ?_
  refine lv_iload_n hx hb dX3_init_116 rfl (lv_at hl 0 rfl) ?_
  refine n_mul hx hb dX3_init_117 ?_
  refine lv_bipush (v := nI 12) hx hb dX3_init_118 (by decide) ?_
  refine n_rem hx hb (by omega) (by decide) (by decide) dX3_init_120 ?_
  refine ct_iast S0 hG h 1 rfl (by decide) (by decide) dX3_init_121 (fun H locs h => ?_)
  have h : WX G A s _ _ ([(b0, .inr (3, [.ref c0, .ref q1, .ref q2, .ref q3, .ref q4, .ref q5, .ref q6, .ref q7, .int (nI 0), .int (nI 0), .int (nI 0), .int (nI 0), .int (-1), .ref q8, .int (nI 0)])), (q1, .inl (gI G, 6, .inl (fun i => nI ((va_up ((va_up ((va_up (z0) 0 0)) 1 5)) 2 10) i)))), (q2, .inl (gI G, 3, .inl (fun i => nI (z0 i)))), (q3, .inl (gI G, 8, .inl (fun i => nI (z0 i)))), (q4, .inl (gI G, 8, .inl (fun i => nI (z0 i)))), (q5, .inl (gI G, 8, .inl (fun i => nI (z0 i)))), (q6, .inl (gI G, 8, .inl (fun i => nI (z0 i)))), (q7, .inl (gI G, 8, .inl (fun i => nI (z0 i)))), (q8, .inl (gI G, 8, .inl (fun i => nI (z0 i))))]) := h
  refine lv_iinc hx hb dX3_init_122 hl (k := 0) rfl (inc_1 _) (by decide) rfl (fun ls hl => ?_)
  refine lv_goto (tgt := 104) hx hb dX3_init_125 (by decide) ?_
  refine lv_iload_n hx hb dX3_init_104 rfl (lv_at hl 0 rfl) ?_
  refine lv_bipush (v := nI 6) hx hb dX3_init_105 (by decide) ?_
  refine n_cge hx hb (by decide) (by decide) (tgt := 128) dX3_init_107 (by decide) (fun q => absurd q (by decide)) (fun _ => ?_)
  refine lv_aload_n hx hb dX3_init_110 rfl (lv_at hl 1 rfl) ?_
  refine ct_get (v := .ref q1) S0 hG h inlX3 0 rfl rfl 1 (by decide) (rin4 _ (List.mem_of_getElem? (i := 13) rfl)) (fun _ h => h) rfl dX3_init_111 ?_
  refine lv_iload_n hx hb dX3_init_114 rfl (lv_at hl 0 rfl) ?_
  refine lv_iconst (v := nI 5) hx hb dX3_init_115 (by decide) ?_
  refine lv_iload_n hx hb dX3_init_116 rfl (lv_at hl 0 rfl) ?_
  refine n_mul hx hb dX3_init_117 ?_
  refine lv_bipush (v := nI 12) hx hb dX3_init_118 (by decide) ?_
  refine n_rem hx hb (by omega) (by decide) (by decide) dX3_init_120 ?_
  refine ct_iast S0 hG h 1 rfl (by decide) (by decide) dX3_init_121 (fun H locs h => ?_)
  have h : WX G A s _ _ ([(b0, .inr (3, [.ref c0, .ref q1, .ref q2, .ref q3, .ref q4, .ref q5, .ref q6, .ref q7, .int (nI 0), .int (nI 0), .int (nI 0), .int (nI 0), .int (-1), .ref q8, .int (nI 0)])), (q1, .inl (gI G, 6, .inl (fun i => nI ((va_up ((va_up ((va_up ((va_up (z0) 0 0)) 1 5)) 2 10)) 3 3) i)))), (q2, .inl (gI G, 3, .inl (fun i => nI (z0 i)))), (q3, .inl (gI G, 8, .inl (fun i => nI (z0 i)))), (q4, .inl (gI G, 8, .inl (fun i => nI (z0 i)))), (q5, .inl (gI G, 8, .inl (fun i => nI (z0 i)))), (q6, .inl (gI G, 8, .inl (fun i => nI (z0 i)))), (q7, .inl (gI G, 8, .inl (fun i => nI (z0 i)))), (q8, .inl (gI G, 8, .inl (fun i => nI (z0 i))))]) := h
  refine lv_iinc hx hb dX3_init_122 hl (k := 0) rfl (inc_1 _) (by decide) rfl (fun ls hl => ?_)
  refine lv_goto (tgt := 104) hx hb dX3_init_125 (by decide) ?_
  refine lv_iload_n hx hb dX3_init_104 rfl (lv_at hl 0 rfl) ?_
  refine lv_bipush (v := nI 6) hx hb dX3_init_105 (by decide) ?_
  refine n_cge hx hb (by decide) (by decide) (tgt := 128) dX3_init_107 (by decide) (fun q => absurd q (by decide)) (fun _ => ?_)
  refine lv_aload_n hx hb dX3_init_110 rfl (lv_at hl 1 rfl) ?_
  refine ct_get (v := .ref q1) S0 hG h inlX3 0 rfl rfl 1 (by decide) (rin4 _ (List.mem_of_getElem? (i := 13) rfl)) (fun _ h => h) rfl dX3_init_111 ?_
  refine lv_iload_n hx hb dX3_init_114 rfl (lv_at hl 0 rfl) ?_
  refine lv_iconst (v := nI 5) hx hb dX3_init_115 (by decide) ?_
  refine lv_iload_n hx hb dX3_init_116 rfl (lv_at hl 0 rfl) ?_
  refine n_mul hx hb dX3_init_117 ?_
  refine lv_bipush (v := nI 12) hx hb dX3_init_118 (by decide) ?_
  refine n_rem hx hb (by omega) (by decide) (by decide) dX3_init_120 ?_
  refine ct_iast S0 hG h 1 rfl (by decide) (by decide) dX3_init_121 (fun H locs h => ?_)
  have h : WX G A s _ _ ([(b0, .inr (3, [.ref c0, .ref q1, .ref q2, .ref q3, .ref q4, .ref q5, .ref q6, .ref q7, .int (nI 0), .int (nI 0), .int (nI 0), .int (nI 0), .int (-1), .ref q8, .int (nI 0)])), (q1, .inl (gI G, 6, .inl (fun i => nI ((va_up ((va_up ((va_up ((va_up ((va_up (z0) 0 0)) 1 5)) 2 10)) 3 3)) 4 8) i)))), (q2, .inl (gI G, 3, .inl (fun i => nI (z0 i)))), (q3, .inl (gI G, 8, .inl (fun i => nI (z0 i)))), (q4, .inl (gI G, 8, .inl (fun i => nI (z0 i)))), (q5, .inl (gI G, 8, .inl (fun i => nI (z0 i)))), (q6, .inl (gI G, 8, .inl (fun i => nI (z0 i)))), (q7, .inl (gI G, 8, .inl (fun i => nI (z0 i)))), (q8, .inl (gI G, 8, .inl (fun i => nI (z0 i))))]) := h
  refine lv_iinc hx hb dX3_init_122 hl (k := 0) rfl (inc_1 _) (by decide) rfl (fun ls hl => ?_)
  refine lv_goto (tgt := 104) hx hb dX3_init_125 (by decide) ?_
  refine lv_iload_n hx hb dX3_init_104 rfl (lv_at hl 0 rfl) ?_
  refine lv_bipush (v := nI 6) hx hb dX3_init_105 (by decide) ?_
  refine n_cge hx hb (by decide) (by decide) (tgt := 128) dX3_init_107 (by decide) (fun q => absurd q (by decide)) (fun _ => ?_)
  refine lv_aload_n hx hb dX3_init_110 rfl (lv_at hl 1 rfl) ?_
  refine ct_get (v := .ref q1) S0 hG h inlX3 0 rfl rfl 1 (by decide) (rin4 _ (List.mem_of_getElem? (i := 13) rfl)) (fun _ h => h) rfl dX3_init_111 ?_
  refine lv_iload_n hx hb dX3_init_114 rfl (lv_at hl 0 rfl) ?_
  refine lv_iconst (v := nI 5) hx hb dX3_init_115 (by decide) ?_
  refine lv_iload_n hx hb dX3_init_116 rfl (lv_at hl 0 rfl) ?_
  refine n_mul hx hb dX3_init_117 ?_
  refine lv_bipush (v := nI 12) hx hb dX3_init_118 (by decide) ?_
  refine n_rem hx hb (by omega) (by decide) (by decide) dX3_init_120 ?_
  refine ct_iast S0 hG h 1 rfl (by decide) (by decide) dX3_init_121 (fun H locs h => ?_)
  have h : WX G A s _ _ ([(b0, .inr (3, [.ref c0, .ref q1, .ref q2, .ref q3, .ref q4, .ref q5, .ref q6, .ref q7, .int (nI 0), .int (nI 0), .int (nI 0), .int (nI 0), .int (-1), .ref q8, .int (nI 0)])), (q1, .inl (gI G, 6, .inl (fun i => nI ((va_up ((va_up ((va_up ((va_up ((va_up ((va_up (z0) 0 0)) 1 5)) 2 10)) 3 3)) 4 8)) 5 1) i)))), (q2, .inl (gI G, 3, .inl (fun i => nI (z0 i)))), (q3, .inl (gI G, 8, .inl (fun i => nI (z0 i)))), (q4, .inl (gI G, 8, .inl (fun i => nI (z0 i)))), (q5, .inl (gI G, 8, .inl (fun i => nI (z0 i)))), (q6, .inl (gI G, 8, .inl (fun i => nI (z0 i)))), (q7, .inl (gI G, 8, .inl (fun i => nI (z0 i)))), (q8, .inl (gI G, 8, .inl (fun i => nI (z0 i))))]) := h
  refine lv_iinc hx hb dX3_init_122 hl (k := 0) rfl (inc_1 _) (by decide) rfl (fun ls hl => ?_)
  refine lv_goto (tgt := 104) hx hb dX3_init_125 (by decide) ?_
  refine lv_iload_n hx hb dX3_init_104 rfl (lv_at hl 0 rfl) ?_
  refine lv_bipush (v := nI 6) hx hb dX3_init_105 (by decide) ?_
  refine n_cge hx hb (by decide) (by decide) (tgt := 128) dX3_init_107 (by decide) (fun _ => ?_) (fun q => absurd q (by decide))
  refine lv_iconst (v := nI 0) hx hb dX3_init_128 (by decide) ?_
  refine lv_istore_n hx hb dX3_init_129 rfl hl (by decide) rfl (fun ls hl => ?_)
  refine lv_iload_n hx hb dX3_init_130 rfl (lv_at hl 0 rfl) ?_
  refine lv_iconst (v := nI 3) hx hb dX3_init_131 (by decide) ?_
  refine n_cge hx hb (by decide) (by decide) (tgt := 153) dX3_init_132 (by decide) (fun q => absurd q (by decide)) (fun _ => ?_)
  refine lv_aload_n hx hb dX3_init_135 rfl (lv_at hl 1 rfl) ?_
  refine ct_get (v := .ref q2) S0 hG h inlX3 0 rfl rfl 2 (by decide) (rin4 _ (List.mem_of_getElem? (i := 14) rfl)) (fun _ h => h) rfl dX3_init_136 ?_
  refine lv_iload_n hx hb dX3_init_139 rfl (lv_at hl 0 rfl) ?_
  refine lv_bipush (v := nI 10) hx hb dX3_init_140 (by decide) ?_
  refine lv_iload_n hx hb dX3_init_142 rfl (lv_at hl 0 rfl) ?_
  refine lv_iconst (v := nI 1) hx hb dX3_init_143 (by decide) ?_
  refine n_add hx hb dX3_init_144 ?_
  refine n_mul hx hb dX3_init_145 ?_
  refine ct_iast S0 hG h 2 rfl (by decide) (by decide) dX3_init_146 (fun H locs h => ?_)
  have h : WX G A s _ _ ([(b0, .inr (3, [.ref c0, .ref q1, .ref q2, .ref q3, .ref q4, .ref q5, .ref q6, .ref q7, .int (nI 0), .int (nI 0), .int (nI 0), .int (nI 0), .int (-1), .ref q8, .int (nI 0)])), (q1, .inl (gI G, 6, .inl (fun i => nI ((va_up ((va_up ((va_up ((va_up ((va_up ((va_up (z0) 0 0)) 1 5)) 2 10)) 3 3)) 4 8)) 5 1) i)))), (q2, .inl (gI G, 3, .inl (fun i => nI ((va_up (z0) 0 10) i)))), (q3, .inl (gI G, 8, .inl (fun i => nI (z0 i)))), (q4, .inl (gI G, 8, .inl (fun i => nI (z0 i)))), (q5, .inl (gI G, 8, .inl (fun i => nI (z0 i)))), (q6, .inl (gI G, 8, .inl (fun i => nI (z0 i)))), (q7, .inl (gI G, 8, .inl (fun i => nI (z0 i)))), (q8, .inl (gI G, 8, .inl (fun i => nI (z0 i))))]) := h
  refine lv_iinc hx hb dX3_init_147 hl (k := 0) rfl (inc_1 _) (by decide) rfl (fun ls hl => ?_)
  refine lv_goto (tgt := 130) hx hb dX3_init_150 (by decide) ?_
  refine lv_iload_n hx hb dX3_init_130 rfl (lv_at hl 0 rfl) ?_
  refine lv_iconst (v := nI 3) hx hb dX3_init_131 (by decide) ?_
  refine n_cge hx hb (by decide) (by decide) (tgt := 153) dX3_init_132 (by decide) (fun q => absurd q (by decide)) (fun _ => ?_)
  refine lv_aload_n hx hb dX3_init_135 rfl (lv_at hl 1 rfl) ?_
  refine ct_get (v := .ref q2) S0 hG h inlX3 0 rfl rfl 2 (by decide) (rin4 _ (List.mem_of_getElem? (i := 14) rfl)) (fun _ h => h) rfl dX3_init_136 ?_
  refine lv_iload_n hx hb dX3_init_139 rfl (lv_at hl 0 rfl) ?_
  refine lv_bipush (v := nI 10) hx hb dX3_init_140 (by decide) ?_
  refine lv_iload_n hx hb dX3_init_142 rfl (lv_at hl 0 rfl) ?_
  refine lv_iconst (v := nI 1) hx hb dX3_init_143 (by decide) ?_
  refine n_add hx hb dX3_init_144 ?_
  refine n_mul hx hb dX3_init_145 ?_
  refine ct_iast S0 hG h 2 rfl (by decide) (by decide) dX3_init_146 (fun H locs h => ?_)
  have h : WX G A s _ _ ([(b0, .inr (3, [.ref c0, .ref q1, .ref q2, .ref q3, .ref q4, .ref q5, .ref q6, .ref q7, .int (nI 0), .int (nI 0), .int (nI 0), .int (nI 0), .int (-1), .ref q8, .int (nI 0)])), (q1, .inl (gI G, 6, .inl (fun i => nI ((va_up ((va_up ((va_up ((va_up ((va_up ((va_up (z0) 0 0)) 1 5)) 2 10)) 3 3)) 4 8)) 5 1) i)))), (q2, .inl (gI G, 3, .inl (fun i => nI ((va_up ((va_up (z0) 0 10)) 1 20) i)))), (q3, .inl (gI G, 8, .inl (fun i => nI (z0 i)))), (q4, .inl (gI G, 8, .inl (fun i => nI (z0 i)))), (q5, .inl (gI G, 8, .inl (fun i => nI (z0 i)))), (q6, .inl (gI G, 8, .inl (fun i => nI (z0 i)))), (q7, .inl (gI G, 8, .inl (fun i => nI (z0 i)))), (q8, .inl (gI G, 8, .inl (fun i => nI (z0 i))))]) := h
  refine lv_iinc hx hb dX3_init_147 hl (k := 0) rfl (inc_1 _) (by decide) rfl (fun ls hl => ?_)
  refine lv_goto (tgt := 130) hx hb dX3_init_150 (by decide) ?_
  refine lv_iload_n hx hb dX3_init_130 rfl (lv_at hl 0 rfl) ?_
  refine lv_iconst (v := nI 3) hx hb dX3_init_131 (by decide) ?_
  refine n_cge hx hb (by decide) (by decide) (tgt := 153) dX3_init_132 (by decide) (fun q => absurd q (by decide)) (fun _ => ?_)
  refine lv_aload_n hx hb dX3_init_135 rfl (lv_at hl 1 rfl) ?_
  refine ct_get (v := .ref q2) S0 hG h inlX3 0 rfl rfl 2 (by decide) (rin4 _ (List.mem_of_getElem? (i := 14) rfl)) (fun _ h => h) rfl dX3_init_136 ?_
  refine lv_iload_n hx hb dX3_init_139 rfl (lv_at hl 0 rfl) ?_
  refine lv_bipush (v := nI 10) hx hb dX3_init_140 (by decide) ?_
  refine lv_iload_n hx hb dX3_init_142 rfl (lv_at hl 0 rfl) ?_
  refine lv_iconst (v := nI 1) hx hb dX3_init_143 (by decide) ?_
  refine n_add hx hb dX3_init_144 ?_
  refine n_mul hx hb dX3_init_145 ?_
  refine ct_iast S0 hG h 2 rfl (by decide) (by decide) dX3_init_146 (fun H locs h => ?_)
  have h : WX G A s _ _ ([(b0, .inr (3, [.ref c0, .ref q1, .ref q2, .ref q3, .ref q4, .ref q5, .ref q6, .ref q7, .int (nI 0), .int (nI 0), .int (nI 0), .int (nI 0), .int (-1), .ref q8, .int (nI 0)])), (q1, .inl (gI G, 6, .inl (fun i => nI ((va_up ((va_up ((va_up ((va_up ((va_up ((va_up (z0) 0 0)) 1 5)) 2 10)) 3 3)) 4 8)) 5 1) i)))), (q2, .inl (gI G, 3, .inl (fun i => nI ((va_up ((va_up ((va_up (z0) 0 10)) 1 20)) 2 30) i)))), (q3, .inl (gI G, 8, .inl (fun i => nI (z0 i)))), (q4, .inl (gI G, 8, .inl (fun i => nI (z0 i)))), (q5, .inl (gI G, 8, .inl (fun i => nI (z0 i)))), (q6, .inl (gI G, 8, .inl (fun i => nI (z0 i)))), (q7, .inl (gI G, 8, .inl (fun i => nI (z0 i)))), (q8, .inl (gI G, 8, .inl (fun i => nI (z0 i))))]) := h
  refine lv_iinc hx hb dX3_init_147 hl (k := 0) rfl (inc_1 _) (by decide) rfl (fun ls hl => ?_)
  refine lv_goto (tgt := 130) hx hb dX3_init_150 (by decide) ?_
  refine lv_iload_n hx hb dX3_init_130 rfl (lv_at hl 0 rfl) ?_
  refine lv_iconst (v := nI 3) hx hb dX3_init_131 (by decide) ?_
  refine n_cge hx hb (by decide) (by decide) (tgt := 153) dX3_init_132 (by decide) (fun _ => ?_) (fun q => absurd q (by decide))
  exact hret (fun i => [b0, q1, q2, q3, q4, q5, q6, q7, q8].getD i 0) _ _ _ _ (((((((h.ext_i (f2 := fun i => nI (sc f0 i)) 1 rfl (fun i hi => nI_cong ((show ∀ i, i < 6 → (va_up ((va_up ((va_up ((va_up ((va_up ((va_up (z0) 0 0)) 1 5)) 2 10)) 3 3)) 4 8)) 5 1) i = sc f0 i by decide) i hi))).ext_i (f2 := fun i => nI (be f0 i)) 2 rfl (fun i hi => nI_cong ((show ∀ i, i < 3 → (va_up ((va_up ((va_up (z0) 0 10)) 1 20)) 2 30) i = be f0 i by decide) i hi))).ext_i (f2 := fun i => nI (its f0 i 0)) 3 rfl (fun i hi => nI_cong ((show ∀ i, i < 8 → z0 i = its f0 i 0 by decide) i hi))).ext_i (f2 := fun i => nI (its f0 i 1)) 4 rfl (fun i hi => nI_cong ((show ∀ i, i < 8 → z0 i = its f0 i 1 by decide) i hi))).ext_i (f2 := fun i => nI (its f0 i 2)) 5 rfl (fun i hi => nI_cong ((show ∀ i, i < 8 → z0 i = its f0 i 2 by decide) i hi))).ext_i (f2 := fun i => nI (its f0 i 3)) 6 rfl (fun i hi => nI_cong ((show ∀ i, i < 8 → z0 i = its f0 i 3 by decide) i hi))).ext_i (f2 := fun i => nI (its f0 i 4)) 7 rfl (fun i hi => nI_cong ((show ∀ i, i < 8 → z0 i = its f0 i 4 by decide) i hi))) dX3_init_153
