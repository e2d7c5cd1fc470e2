/-- an object's cells: its own, then those that its constructor makes -/
def ax (b : Nat) (u : Nat → Nat) : Nat → Nat := fun i => if i = 0 then b else u i
def D0 : DT := ((0, 0, -1, z0, 0), (f0, (0, 0, -1, z0, 0)), (0, 0, -1, z0, 0), (0, 0, 0, 0))
variable {G : GT} {l : Launch}
set_option maxHeartbeats 4000000 in
set_option maxRecDepth 100000 in
theorem c_X11_init {b0 : Nat} : Kn G l yX11_init cX11_init 2 (RMc 2 40 11 547) [.ref b0] [(b0, .inr (11, [.null, .null, .null, .null, .null, .null, .int 0, .int 0, .null, .int 0, .int 0, .int 0, .int 0, .int 0, .null, .null, .null, .null]))] (fun u : Nat → Nat => wM G (ax b0 u) f0 z0 z0 z0 z0 z0 z0 z0 z0 z8 z8 0 0 0 0 0 0 0) 11 547 := by
  refine Kn.of (by decide) (Nat.le_of_ble_eq_true rfl) ?_
  intro p e s m args below meth c A Q ls hx hb S0 hG hA hO h hin hret hl
  have S0 : CF p m c cX11_init 2 s args RX11 := S0
  have hin : meth.name = "<init>" := hin
  have hl : lv_has ls 2 [(0, .ref b0)] := hl
  refine lv_aload_n hx hb dX11_init_0 rfl (lv_at hl 0 rfl) ?_
  refine ct_obj S0 hl.1 (rin5 _ (List.mem_of_getElem? (i := 14) rfl)) (by decide) (Nat.le_of_ble_eq_true rfl) dX11_init_1 ?_
  refine lv_aload_n hx hb dX11_init_4 rfl (lv_at hl 0 rfl) ?_
  refine lv_bipush (v := nI 51) hx hb dX11_init_5 (by decide) ?_
  refine ct_newI (N := 51) S0 hG hA h (by decide) (Nat.le_of_ble_eq_true rfl) (Nat.le_of_ble_eq_true rfl) dX11_init_7 (fun q1 H h => ?_)
  have h : WX G A s _ _ ([(b0, .inr (11, [.null, .null, .null, .null, .null, .null, .int 0, .int 0, .null, .int 0, .int 0, .int 0, .int 0, .int 0, .null, .null, .null, .null])), (q1, .inl (gI G, 51, .inl (fun i => nI (z0 i))))]) := h
  refine ct_putF (v := .ref q1) (ty := .array (.int)) S0 hG h inlX11 tyX11 tyX11_ok nmX11 0 rfl rfl 0 (by decide) (rin5 _ (List.mem_of_getElem? (i := 15) rfl)) (fun _ h => h) rfl hin rfl (by decide +kernel) rfl rfl (Nat.le_of_ble_eq_true rfl) dX11_init_9 (fun H locs h => ?_)
  have h : WX G A s _ _ ([(b0, .inr (11, [.ref q1, .null, .null, .null, .null, .null, .int 0, .int 0, .null, .int 0, .int 0, .int 0, .int 0, .int 0, .null, .null, .null, .null])), (q1, .inl (gI G, 51, .inl (fun i => nI (z0 i))))]) := h
  refine lv_aload_n hx hb dX11_init_12 rfl (lv_at hl 0 rfl) ?_
  refine lv_bipush (v := nI 51) hx hb dX11_init_13 (by decide) ?_
  refine ct_newI (N := 51) S0 hG hA h (by decide) (Nat.le_of_ble_eq_true rfl) (Nat.le_of_ble_eq_true rfl) dX11_init_15 (fun q2 H h => ?_)
  have h : WX G A s _ _ ([(b0, .inr (11, [.ref q1, .null, .null, .null, .null, .null, .int 0, .int 0, .null, .int 0, .int 0, .int 0, .int 0, .int 0, .null, .null, .null, .null])), (q1, .inl (gI G, 51, .inl (fun i => nI (z0 i)))), (q2, .inl (gI G, 51, .inl (fun i => nI (z0 i))))]) := h
  refine ct_putF (v := .ref q2) (ty := .array (.int)) S0 hG h inlX11 tyX11 tyX11_ok nmX11 0 rfl rfl 1 (by decide) (rin5 _ (List.mem_of_getElem? (i := 16) rfl)) (fun _ h => h) rfl hin rfl (by decide +kernel) rfl rfl (Nat.le_of_ble_eq_true rfl) dX11_init_17 (fun H locs h => ?_)
  have h : WX G A s _ _ ([(b0, .inr (11, [.ref q1, .ref q2, .null, .null, .null, .null, .int 0, .int 0, .null, .int 0, .int 0, .int 0, .int 0, .int 0, .null, .null, .null, .null])), (q1, .inl (gI G, 51, .inl (fun i => nI (z0 i)))), (q2, .inl (gI G, 51, .inl (fun i => nI (z0 i))))]) := h
  refine lv_aload_n hx hb dX11_init_20 rfl (lv_at hl 0 rfl) ?_
  refine lv_bipush (v := nI 51) hx hb dX11_init_21 (by decide) ?_
  refine ct_newI (N := 51) S0 hG hA h (by decide) (Nat.le_of_ble_eq_true rfl) (Nat.le_of_ble_eq_true rfl) dX11_init_23 (fun q3 H h => ?_)
  have h : WX G A s _ _ ([(b0, .inr (11, [.ref q1, .ref q2, .null, .null, .null, .null, .int 0, .int 0, .null, .int 0, .int 0, .int 0, .int 0, .int 0, .null, .null, .null, .null])), (q1, .inl (gI G, 51, .inl (fun i => nI (z0 i)))), (q2, .inl (gI G, 51, .inl (fun i => nI (z0 i)))), (q3, .inl (gI G, 51, .inl (fun i => nI (z0 i))))]) := h
  refine ct_putF (v := .ref q3) (ty := .array (.int)) S0 hG h inlX11 tyX11 tyX11_ok nmX11 0 rfl rfl 2 (by decide) (rin5 _ (List.mem_of_getElem? (i := 17) rfl)) (fun _ h => h) rfl hin rfl (by decide +kernel) rfl rfl (Nat.le_of_ble_eq_true rfl) dX11_init_25 (fun H locs h => ?_)
  have h : WX G A s _ _ ([(b0, .inr (11, [.ref q1, .ref q2, .ref q3, .null, .null, .null, .int 0, .int 0, .null, .int 0, .int 0, .int 0, .int 0, .int 0, .null, .null, .null, .null])), (q1, .inl (gI G, 51, .inl (fun i => nI (z0 i)))), (q2, .inl (gI G, 51, .inl (fun i => nI (z0 i)))), (q3, .inl (gI G, 51, .inl (fun i => nI (z0 i))))]) := h
  refine lv_aload_n hx hb dX11_init_28 rfl (lv_at hl 0 rfl) ?_
  refine lv_bipush (v := nI 51) hx hb dX11_init_29 (by decide) ?_
  refine ct_newI (N := 51) S0 hG hA h (by decide) (Nat.le_of_ble_eq_true rfl) (Nat.le_of_ble_eq_true rfl) dX11_init_31 (fun q4 H h => ?_)
  have h : WX G A s _ _ ([(b0, .inr (11, [.ref q1, .ref q2, .ref q3, .null, .null, .null, .int 0, .int 0, .null, .int 0, .int 0, .int 0, .int 0, .int 0, .null, .null, .null, .null])), (q1, .inl (gI G, 51, .inl (fun i => nI (z0 i)))), (q2, .inl (gI G, 51, .inl (fun i => nI (z0 i)))), (q3, .inl (gI G, 51, .inl (fun i => nI (z0 i)))), (q4, .inl (gI G, 51, .inl (fun i => nI (z0 i))))]) := h
  refine ct_putF (v := .ref q4) (ty := .array (.int)) S0 hG h inlX11 tyX11 tyX11_ok nmX11 0 rfl rfl 3 (by decide) (rin5 _ (List.mem_of_getElem? (i := 18) rfl)) (fun _ h => h) rfl hin rfl (by decide +kernel) rfl rfl (Nat.le_of_ble_eq_true rfl) dX11_init_33 (fun H locs h => ?_)
  have h : WX G A s _ _ ([(b0, .inr (11, [.ref q1, .ref q2, .ref q3, .ref q4, .null, .null, .int 0, .int 0, .null, .int 0, .int 0, .int 0, .int 0, .int 0, .null, .null, .null, .null])), (q1, .inl (gI G, 51, .inl (fun i => nI (z0 i)))), (q2, .inl (gI G, 51, .inl (fun i => nI (z0 i)))), (q3, .inl (gI G, 51, .inl (fun i => nI (z0 i)))), (q4, .inl (gI G, 51, .inl (fun i => nI (z0 i))))]) := h
  refine lv_aload_n hx hb dX11_init_36 rfl (lv_at hl 0 rfl) ?_
  refine lv_bipush (v := nI 7) hx hb dX11_init_37 (by decide) ?_
  refine ct_newI (N := 7) S0 hG hA h (by decide) (Nat.le_of_ble_eq_true rfl) (Nat.le_of_ble_eq_true rfl) dX11_init_39 (fun q5 H h => ?_)
  have h : WX G A s _ _ ([(b0, .inr (11, [.ref q1, .ref q2, .ref q3, .ref q4, .null, .null, .int 0, .int 0, .null, .int 0, .int 0, .int 0, .int 0, .int 0, .null, .null, .null, .null])), (q1, .inl (gI G, 51, .inl (fun i => nI (z0 i)))), (q2, .inl (gI G, 51, .inl (fun i => nI (z0 i)))), (q3, .inl (gI G, 51, .inl (fun i => nI (z0 i)))), (q4, .inl (gI G, 51, .inl (fun i => nI (z0 i)))), (q5, .inl (gI G, 7, .inl (fun i => nI (z0 i))))]) := h
  refine ct_putF (v := .ref q5) (ty := .array (.int)) S0 hG h inlX11 tyX11 tyX11_ok nmX11 0 rfl rfl 4 (by decide) (rin5 _ (List.mem_of_getElem? (i := 19) rfl)) (fun _ h => h) rfl hin rfl (by decide +kernel) rfl rfl (Nat.le_of_ble_eq_true rfl) dX11_init_41 (fun H locs h => ?_)
  have h : WX G A s _ _ ([(b0, .inr (11, [.ref q1, .ref q2, .ref q3, .ref q4, .ref q5, .null, .int 0, .int 0, .null, .int 0, .int 0, .int 0, .int 0, .int 0, .null, .null, .null, .null])), (q1, .inl (gI G, 51, .inl (fun i => nI (z0 i)))), (q2, .inl (gI G, 51, .inl (fun i => nI (z0 i)))), (q3, .inl (gI G, 51, .inl (fun i => nI (z0 i)))), (q4, .inl (gI G, 51, .inl (fun i => nI (z0 i)))), (q5, .inl (gI G, 7, .inl (fun i => nI (z0 i))))]) := h
  refine lv_aload_n hx hb dX11_init_44 rfl (lv_at hl 0 rfl) ?_
  refine lv_bipush (v := nI 8) hx hb dX11_init_45 (by decide) ?_
  refine ct_newI (N := 8) S0 hG hA h (by decide) (Nat.le_of_ble_eq_true rfl) (Nat.le_of_ble_eq_true rfl) dX11_init_47 (fun q6 H h => ?_)
  have h : WX G A s _ _ ([(b0, .inr (11, [.ref q1, .ref q2, .ref q3, .ref q4, .ref q5, .null, .int 0, .int 0, .null, .int 0, .int 0, .int 0, .int 0, .int 0, .null, .null, .null, .null])), (q1, .inl (gI G, 51, .inl (fun i => nI (z0 i)))), (q2, .inl (gI G, 51, .inl (fun i => nI (z0 i)))), (q3, .inl (gI G, 51, .inl (fun i => nI (z0 i)))), (q4, .inl (gI G, 51, .inl (fun i => nI (z0 i)))), (q5, .inl (gI G, 7, .inl (fun i => nI (z0 i)))), (q6, .inl (gI G, 8, .inl (fun i => nI (z0 i))))]) := h
  refine ct_putF (v := .ref q6) (ty := .array (.int)) S0 hG h inlX11 tyX11 tyX11_ok nmX11 0 rfl rfl 5 (by decide) (rin5 _ (List.mem_of_getElem? (i := 20) rfl)) (fun _ h => h) rfl hin rfl (by decide +kernel) rfl rfl (Nat.le_of_ble_eq_true rfl) dX11_init_49 (fun H locs h => ?_)
  have h : WX G A s _ _ ([(b0, .inr (11, [.ref q1, .ref q2, .ref q3, .ref q4, .ref q5, .ref q6, .int 0, .int 0, .null, .int 0, .int 0, .int 0, .int 0, .int 0, .null, .null, .null, .null])), (q1, .inl (gI G, 51, .inl (fun i => nI (z0 i)))), (q2, .inl (gI G, 51, .inl (fun i => nI (z0 i)))), (q3, .inl (gI G, 51, .inl (fun i => nI (z0 i)))), (q4, .inl (gI G, 51, .inl (fun i => nI (z0 i)))), (q5, .inl (gI G, 7, .inl (fun i => nI (z0 i)))), (q6, .inl (gI G, 8, .inl (fun i => nI (z0 i))))]) := h
  refine lv_aload_n hx hb dX11_init_52 rfl (lv_at hl 0 rfl) ?_
  refine lv_bipush (v := nI 120) hx hb dX11_init_53 (by decide) ?_
  refine ct_newI (N := 120) S0 hG hA h (by decide) (Nat.le_of_ble_eq_true rfl) (Nat.le_of_ble_eq_true rfl) dX11_init_55 (fun q7 H h => ?_)
  have h : WX G A s _ _ ([(b0, .inr (11, [.ref q1, .ref q2, .ref q3, .ref q4, .ref q5, .ref q6, .int 0, .int 0, .null, .int 0, .int 0, .int 0, .int 0, .int 0, .null, .null, .null, .null])), (q1, .inl (gI G, 51, .inl (fun i => nI (z0 i)))), (q2, .inl (gI G, 51, .inl (fun i => nI (z0 i)))), (q3, .inl (gI G, 51, .inl (fun i => nI (z0 i)))), (q4, .inl (gI G, 51, .inl (fun i => nI (z0 i)))), (q5, .inl (gI G, 7, .inl (fun i => nI (z0 i)))), (q6, .inl (gI G, 8, .inl (fun i => nI (z0 i)))), (q7, .inl (gI G, 120, .inl (fun i => nI (z0 i))))]) := h
  refine ct_putF (v := .ref q7) (ty := .array (.int)) S0 hG h inlX11 tyX11 tyX11_ok nmX11 0 rfl rfl 8 (by decide) (rin5 _ (List.mem_of_getElem? (i := 21) rfl)) (fun _ h => h) rfl hin rfl (by decide +kernel) rfl rfl (Nat.le_of_ble_eq_true rfl) dX11_init_57 (fun H locs h => ?_)
  have h : WX G A s _ _ ([(b0, .inr (11, [.ref q1, .ref q2, .ref q3, .ref q4, .ref q5, .ref q6, .int 0, .int 0, .ref q7, .int 0, .int 0, .int 0, .int 0, .int 0, .null, .null, .null, .null])), (q1, .inl (gI G, 51, .inl (fun i => nI (z0 i)))), (q2, .inl (gI G, 51, .inl (fun i => nI (z0 i)))), (q3, .inl (gI G, 51, .inl (fun i => nI (z0 i)))), (q4, .inl (gI G, 51, .inl (fun i => nI (z0 i)))), (q5, .inl (gI G, 7, .inl (fun i => nI (z0 i)))), (q6, .inl (gI G, 8, .inl (fun i => nI (z0 i)))), (q7, .inl (gI G, 120, .inl (fun i => nI (z0 i))))]) := h
  refine lv_aload_n hx hb dX11_init_60 rfl (lv_at hl 0 rfl) ?_
  refine lv_iconst (v := nI 4) hx hb dX11_init_61 (by decide) ?_
  refine ct_newI (N := 4) S0 hG hA h (by decide) (Nat.le_of_ble_eq_true rfl) (Nat.le_of_ble_eq_true rfl) dX11_init_62 (fun q8 H h => ?_)
  have h : WX G A s _ _ ([(b0, .inr (11, [.ref q1, .ref q2, .ref q3, .ref q4, .ref q5, .ref q6, .int 0, .int 0, .ref q7, .int 0, .int 0, .int 0, .int 0, .int 0, .null, .null, .null, .null])), (q1, .inl (gI G, 51, .inl (fun i => nI (z0 i)))), (q2, .inl (gI G, 51, .inl (fun i => nI (z0 i)))), (q3, .inl (gI G, 51, .inl (fun i => nI (z0 i)))), (q4, .inl (gI G, 51, .inl (fun i => nI (z0 i)))), (q5, .inl (gI G, 7, .inl (fun i => nI (z0 i)))), (q6, .inl (gI G, 8, .inl (fun i => nI (z0 i)))), (q7, .inl (gI G, 120, .inl (fun i => nI (z0 i)))), (q8, .inl (gI G, 4, .inl (fun i => nI (z0 i))))]) := h
  refine ct_putF (v := .ref q8) (ty := .array (.int)) S0 hG h inlX11 tyX11 tyX11_ok nmX11 0 rfl rfl 14 (by decide) (rin5 _ (List.mem_of_getElem? (i := 22) rfl)) (fun _ h => h) rfl hin rfl (by decide +kernel) rfl rfl (Nat.le_of_ble_eq_true rfl) dX11_init_64 (fun H locs h => ?_)
  have h : WX G A s _ _ ([(b0, .inr (11, [.ref q1, .ref q2, .ref q3, .ref q4, .ref q5, .ref q6, .int 0, .int 0, .ref q7, .int 0, .int 0, .int 0, .int 0, .int 0, .ref q8, .null, .null, .null])), (q1, .inl (gI G, 51, .inl (fun i => nI (z0 i)))), (q2, .inl (gI G, 51, .inl (fun i => nI (z0 i)))), (q3, .inl (gI G, 51, .inl (fun i => nI (z0 i)))), (q4, .inl (gI G, 51, .inl (fun i => nI (z0 i)))), (q5, .inl (gI G, 7, .inl (fun i => nI (z0 i)))), (q6, .inl (gI G, 8, .inl (fun i => nI (z0 i)))), (q7, .inl (gI G, 120, .inl (fun i => nI (z0 i)))), (q8, .inl (gI G, 4, .inl (fun i => nI (z0 i))))]) := h
  refine lv_aload_n hx hb dX11_init_67 rfl (lv_at hl 0 rfl) ?_
  refine lv_iconst (v := nI 4) hx hb dX11_init_68 (by decide) ?_
  refine ct_newI (N := 4) S0 hG hA h (by decide) (Nat.le_of_ble_eq_true rfl) (Nat.le_of_ble_eq_true rfl) dX11_init_69 (fun q9 H h => ?_)
  have h : WX G A s _ _ ([(b0, .inr (11, [.ref q1, .ref q2, .ref q3, .ref q4, .ref q5, .ref q6, .int 0, .int 0, .ref q7, .int 0, .int 0, .int 0, .int 0, .int 0, .ref q8, .null, .null, .null])), (q1, .inl (gI G, 51, .inl (fun i => nI (z0 i)))), (q2, .inl (gI G, 51, .inl (fun i => nI (z0 i)))), (q3, .inl (gI G, 51, .inl (fun i => nI (z0 i)))), (q4, .inl (gI G, 51, .inl (fun i => nI (z0 i)))), (q5, .inl (gI G, 7, .inl (fun i => nI (z0 i)))), (q6, .inl (gI G, 8, .inl (fun i => nI (z0 i)))), (q7, .inl (gI G, 120, .inl (fun i => nI (z0 i)))), (q8, .inl (gI G, 4, .inl (fun i => nI (z0 i)))), (q9, .inl (gI G, 4, .inl (fun i => nI (z0 i))))]) := h
  refine ct_putF (v := .ref q9) (ty := .array (.int)) S0 hG h inlX11 tyX11 tyX11_ok nmX11 0 rfl rfl 15 (by decide) (rin5 _ (List.mem_of_getElem? (i := 23) rfl)) (fun _ h => h) rfl hin rfl (by decide +kernel) rfl rfl (Nat.le_of_ble_eq_true rfl) dX11_init_71 (fun H locs h => ?_)
  have h : WX G A s _ _ ([(b0, .inr (11, [.ref q1, .ref q2, .ref q3, .ref q4, .ref q5, .ref q6, .int 0, .int 0, .ref q7, .int 0, .int 0, .int 0, .int 0, .int 0, .ref q8, .ref q9, .null, .null])), (q1, .inl (gI G, 51, .inl (fun i => nI (z0 i)))), (q2, .inl (gI G, 51, .inl (fun i => nI (z0 i)))), (q3, .inl (gI G, 51, .inl (fun i => nI (z0 i)))), (q4, .inl (gI G, 51, .inl (fun i => nI (z0 i)))), (q5, .inl (gI G, 7, .inl (fun i => nI (z0 i)))), (q6, .inl (gI G, 8, .inl (fun i => nI (z0 i)))), (q7, .inl (gI G, 120, .inl (fun i => nI (z0 i)))), (q8, .inl (gI G, 4, .inl (fun i => nI (z0 i)))), (q9, .inl (gI G, 4, .inl (fun i => nI (z0 i))))]) := h
  refine lv_aload_n hx hb dX11_init_74 rfl (lv_at hl 0 rfl) ?_
  refine lv_sipush (v := nI 160) hx hb dX11_init_75 (by decide) ?_
  refine ct_newJ (N := 160) S0 hG hA h (by decide) (Nat.le_of_ble_eq_true rfl) (Nat.le_of_ble_eq_true rfl) dX11_init_78 (fun q10 H h => ?_)
  have h : WX G A s _ _ ([(b0, .inr (11, [.ref q1, .ref q2, .ref q3, .ref q4, .ref q5, .ref q6, .int 0, .int 0, .ref q7, .int 0, .int 0, .int 0, .int 0, .int 0, .ref q8, .ref q9, .null, .null])), (q1, .inl (gI G, 51, .inl (fun i => nI (z0 i)))), (q2, .inl (gI G, 51, .inl (fun i => nI (z0 i)))), (q3, .inl (gI G, 51, .inl (fun i => nI (z0 i)))), (q4, .inl (gI G, 51, .inl (fun i => nI (z0 i)))), (q5, .inl (gI G, 7, .inl (fun i => nI (z0 i)))), (q6, .inl (gI G, 8, .inl (fun i => nI (z0 i)))), (q7, .inl (gI G, 120, .inl (fun i => nI (z0 i)))), (q8, .inl (gI G, 4, .inl (fun i => nI (z0 i)))), (q9, .inl (gI G, 4, .inl (fun i => nI (z0 i)))), (q10, .inl (gJ G, 160, .inr (.inl z8)))]) := h
  refine ct_putF (v := .ref q10) (ty := .array (.long)) S0 hG h inlX11 tyX11 tyX11_ok nmX11 0 rfl rfl 16 (by decide) (rin6 _ (List.mem_of_getElem? (i := 0) rfl)) (fun _ h => h) rfl hin rfl (by decide +kernel) rfl rfl (Nat.le_of_ble_eq_true rfl) dX11_init_80 (fun H locs h => ?_)
  have h : WX G A s _ _ ([(b0, .inr (11, [.ref q1, .ref q2, .ref q3, .ref q4, .ref q5, .ref q6, .int 0, .int 0, .ref q7, .int 0, .int 0, .int 0, .int 0, .int 0, .ref q8, .ref q9, .ref q10, .null])), (q1, .inl (gI G, 51, .inl (fun i => nI (z0 i)))), (q2, .inl (gI G, 51, .inl (fun i => nI (z0 i)))), (q3, .inl (gI G, 51, .inl (fun i => nI (z0 i)))), (q4, .inl (gI G, 51, .inl (fun i => nI (z0 i)))), (q5, .inl (gI G, 7, .inl (fun i => nI (z0 i)))), (q6, .inl (gI G, 8, .inl (fun i => nI (z0 i)))), (q7, .inl (gI G, 120, .inl (fun i => nI (z0 i)))), (q8, .inl (gI G, 4, .inl (fun i => nI (z0 i)))), (q9, .inl (gI G, 4, .inl (fun i => nI (z0 i)))), (q10, .inl (gJ G, 160, .inr (.inl z8)))]) := h
  refine lv_aload_n hx hb dX11_init_83 rfl (lv_at hl 0 rfl) ?_
  refine lv_bipush (v := nI 40) hx hb dX11_init_84 (by decide) ?_
  refine ct_newJ (N := 40) S0 hG hA h (by decide) (Nat.le_of_ble_eq_true rfl) (Nat.le_of_ble_eq_true rfl) dX11_init_86 (fun q11 H h => ?_)
  have h : WX G A s _ _ ([(b0, .inr (11, [.ref q1, .ref q2, .ref q3, .ref q4, .ref q5, .ref q6, .int 0, .int 0, .ref q7, .int 0, .int 0, .int 0, .int 0, .int 0, .ref q8, .ref q9, .ref q10, .null])), (q1, .inl (gI G, 51, .inl (fun i => nI (z0 i)))), (q2, .inl (gI G, 51, .inl (fun i => nI (z0 i)))), (q3, .inl (gI G, 51, .inl (fun i => nI (z0 i)))), (q4, .inl (gI G, 51, .inl (fun i => nI (z0 i)))), (q5, .inl (gI G, 7, .inl (fun i => nI (z0 i)))), (q6, .inl (gI G, 8, .inl (fun i => nI (z0 i)))), (q7, .inl (gI G, 120, .inl (fun i => nI (z0 i)))), (q8, .inl (gI G, 4, .inl (fun i => nI (z0 i)))), (q9, .inl (gI G, 4, .inl (fun i => nI (z0 i)))), (q10, .inl (gJ G, 160, .inr (.inl z8))), (q11, .inl (gJ G, 40, .inr (.inl z8)))]) := h
  refine ct_putF (v := .ref q11) (ty := .array (.long)) S0 hG h inlX11 tyX11 tyX11_ok nmX11 0 rfl rfl 17 (by decide) (rin6 _ (List.mem_of_getElem? (i := 1) rfl)) (fun _ h => h) rfl hin rfl (by decide +kernel) rfl rfl (Nat.le_of_ble_eq_true rfl) dX11_init_88 (fun H locs h => ?_)
  have h : WX G A s _ _ ([(b0, .inr (11, [.ref q1, .ref q2, .ref q3, .ref q4, .ref q5, .ref q6, .int 0, .int 0, .ref q7, .int 0, .int 0, .int 0, .int 0, .int 0, .ref q8, .ref q9, .ref q10, .ref q11])), (q1, .inl (gI G, 51, .inl (fun i => nI (z0 i)))), (q2, .inl (gI G, 51, .inl (fun i => nI (z0 i)))), (q3, .inl (gI G, 51, .inl (fun i => nI (z0 i)))), (q4, .inl (gI G, 51, .inl (fun i => nI (z0 i)))), (q5, .inl (gI G, 7, .inl (fun i => nI (z0 i)))), (q6, .inl (gI G, 8, .inl (fun i => nI (z0 i)))), (q7, .inl (gI G, 120, .inl (fun i => nI (z0 i)))), (q8, .inl (gI G, 4, .inl (fun i => nI (z0 i)))), (q9, .inl (gI G, 4, .inl (fun i => nI (z0 i)))), (q10, .inl (gJ G, 160, .inr (.inl z8))), (q11, .inl (gJ G, 40, .inr (.inl z8)))]) := h
  refine lv_iconst (v := nI 0) hx hb dX11_init_91 (by decide) ?_
  refine lv_istore_n hx hb dX11_init_92 rfl hl (by decide) rfl (fun ls hl => ?_)
  refine lv_iload_n hx hb dX11_init_93 rfl (lv_at hl 0 rfl) ?_
  refine lv_bipush (v := nI 6) hx hb dX11_init_94 (by decide) ?_
  refine n_cge hx hb (by decide) (by decide) (tgt := 119) dX11_init_96 (by decide) (fun q => absurd q (by decide)) (fun _ => ?_)
  refine lv_aload_n hx hb dX11_init_99 rfl (lv_at hl 1 rfl) ?_
  refine ct_get (v := .ref q1) S0 hG h inlX11 0 rfl rfl 0 (by decide) (rin5 _ (List.mem_of_getElem? (i := 15) rfl)) (fun _ h => h) rfl dX11_init_100 ?_
  refine lv_iconst (v := nI 2) hx hb dX11_init_103 (by decide) ?_
  refine lv_iload_n hx hb dX11_init_104 rfl (lv_at hl 0 rfl) ?_
  refine n_add hx hb dX11_init_105 ?_
  refine lv_iconst (v := nI 5) hx hb dX11_init_106 (by decide) ?_
  refine lv_iload_n hx hb dX11_init_107 rfl (lv_at hl 0 rfl) ?_
  refine n_mul hx hb dX11_init_108 ?_
  refine lv_bipush (v := nI 12) hx hb dX11_init_109 (by decide) ?_
  refine n_rem hx hb (by omega) (by decide) (by decide) dX11_init_111 ?_
  refine ct_iast S0 hG h 1 rfl (by decide) (by decide) dX11_init_112 (fun H locs h => ?_)
  have h : WX G A s _ _ ([(b0, .inr (11, [.ref q1, .ref q2, .ref q3, .ref q4, .ref q5, .ref q6, .int 0, .int 0, .ref q7, .int 0, .int 0, .int 0, .int 0, .int 0, .ref q8, .ref q9, .ref q10, .ref q11])), (q1, .inl (gI G, 51, .inl (fun i => nI ((va_up (z0) 2 0) i)))), (q2, .inl (gI G, 51, .inl (fun i => nI (z0 i)))), (q3, .inl (gI G, 51, .inl (fun i => nI (z0 i)))), (q4, .inl (gI G, 51, .inl (fun i => nI (z0 i)))), (q5, .inl (gI G, 7, .inl (fun i => nI (z0 i)))), (q6, .inl (gI G, 8, .inl (fun i => nI (z0 i)))), (q7, .inl (gI G, 120, .inl (fun i => nI (z0 i)))), (q8, .inl (gI G, 4, .inl (fun i => nI (z0 i)))), (q9, .inl (gI G, 4, .inl (fun i => nI (z0 i)))), (q10, .inl (gJ G, 160, .inr (.inl z8))), (q11, .inl (gJ G, 40, .inr (.inl z8)))]) := h
  refine lv_iinc hx hb dX11_init_113 hl (k := 0) rfl (inc_1 _) (by decide) rfl (fun ls hl => ?_)
  refine lv_goto (tgt := 93) hx hb dX11_init_116 (by decide) ?_
  refine lv_iload_n hx hb dX11_init_93 rfl (lv_at hl 0 rfl) ?_
  refine lv_bipush (v := nI 6) hx hb dX11_init_94 (by decide) ?_
  refine n_cge hx hb (by decide) (by decide) (tgt := 119) dX11_init_96 (by decide) (fun q => absurd q (by decide)) (fun _ => ?_)
  refine lv_aload_n hx hb dX11_init_99 rfl (lv_at hl 1 rfl) ?_
  refine ct_get (v := .ref q1) S0 hG h inlX11 0 rfl rfl 0 (by decide) (rin5 _ (List.mem_of_getElem? (i := 15) rfl)) (fun _ h => h) rfl dX11_init_100 ?_
  refine lv_iconst (v := nI 2) hx hb dX11_init_103 (by decide) ?_
  refine lv_iload_n hx hb dX11_init_104 rfl (lv_at hl 0 rfl) ?_
  refine n_add hx hb dX11_init_105 ?_
  refine lv_iconst (v := nI 5) hx hb dX11_init_106 (by decide) ?_
  refine lv_iload_n hx hb dX11_init_107 rfl (lv_at hl 0 rfl) ?_
  refine n_mul hx hb dX11_init_108 ?_
  refine lv_bipush (v := nI 12) hx hb dX11_init_109 (by decide) ?_
  refine n_rem hx hb (by omega) (by decide) (by decide) dX11_init_111 ?_
  refine ct_iast S0 hG h 1 rfl (by decide) (by decide) dX11_init_112 (fun H locs h => ?_)
  have h : WX G A s _ _ ([(b0, .inr (11, [.ref q1, .ref q2, .ref q3, .ref q4, .ref q5, .ref q6, .int 0, .int 0, .ref q7, .int 0, .int 0, .int 0, .int 0, .int 0, .ref q8, .ref q9, .ref q10, .ref q11])), (q1, .inl (gI G, 51, .inl (fun i => nI ((va_up ((va_up (z0) 2 0)) 3 5) i)))), (q2, .inl (gI G, 51, .inl (fun i => nI (z0 i)))), (q3, .inl (gI G, 51, .inl (fun i => nI (z0 i)))), (q4, .inl (gI G, 51, .inl (fun i => nI (z0 i)))), (q5, .inl (gI G, 7, .inl (fun i => nI (z0 i)))), (q6, .inl (gI G, 8, .inl (fun i => nI (z0 i)))), (q7, .inl (gI G, 120, .inl (fun i => nI (z0 i)))), (q8, .inl (gI G, 4, .inl (fun i => nI (z0 i)))), (q9, .inl (gI G, 4, .inl (fun i => nI (z0 i)))), (q10, .inl (gJ G, 160, .inr (.inl z8))), (q11, .inl (gJ G, 40, .inr (.inl z8)))]) := h
  refine lv_iinc hx hb dX11_init_113 hl (k := 0) rfl (inc_1 _) (by decide) rfl (fun ls hl => ?_)
  refine lv_goto (tgt := 93) hx hb dX11_init_116 (by decide) ?_
  refine lv_iload_n hx hb dX11_init_93 rfl (lv_at hl 0 rfl) ?_
  refine lv_bipush (v := nI 6) hx hb dX11_init_94 (by decide) ?_
  refine n_cge hx hb (by decide) (by decide) (tgt := 119) dX11_init_96 (by decide) (fun q => absurd q (by decide)) (fun _ => ?_)
  refine lv_aload_n hx hb dX11_init_99 rfl (lv_at hl 1 rfl) ?_
  refine ct_get (v := .ref q1) S0 hG h inlX11 0 rfl rfl 0 (by decide) (rin5 _ (List.mem_of_getElem? (i := 15) rfl)) (fun _ h => h) rfl dX11_init_100 ?_
  refine lv_iconst (v := nI 2) hx hb dX11_init_103 (by decide) ?_
  refine lv_iload_n hx hb dX11_init_104 rfl (lv_at hl 0 rfl) ?_
  refine n_add hx hb dX11_init_105 ?_
  refine lv_iconst (v := nI 5) hx hb dX11_init_106 (by decide) ?_
  refine lv_iload_n hx hb dX11_init_107 rfl (lv_at hl 0 rfl) ?_
  refine n_mul hx hb dX11_init_108 ?_
  refine lv_bipush (v := nI 12) hx hb dX11_init_109 (by decide) ?_
  refine n_rem hx hb (by omega) (by decide) (by decide) dX11_init_111 ?_
  refine ct_iast S0 hG h 1 rfl (by decide) (by decide) dX11_init_112 (fun H locs h => ?_)
  have h : WX G A s _ _ ([(b0, .inr (11, [.ref q1, .ref q2, .ref q3, .ref q4, .ref q5, .ref q6, .int 0, .int 0, .ref q7, .int 0, .int 0, .int 0, .int 0, .int 0, .ref q8, .ref q9, .ref q10, .ref q11])), (q1, .inl (gI G, 51, .inl (fun i => nI ((va_up ((va_up ((va_up (z0) 2 0)) 3 5)) 4 10) i)))), (q2, .inl (gI G, 51, .inl (fun i => nI (z0 i)))), (q3, .inl (gI G, 51, .inl (fun i => nI (z0 i)))), (q4, .inl (gI G, 51, .inl (fun i => nI (z0 i)))), (q5, .inl (gI G, 7, .inl (fun i => nI (z0 i)))), (q6, .inl (gI G, 8, .inl (fun i => nI (z0 i)))), (q7, .inl (gI G, 120, .inl (fun i => nI (z0 i)))), (q8, .inl (gI G, 4, .inl (fun i => nI (z0 i)))), (q9, .inl (gI G, 4, .inl (fun i => nI (z0 i)))), (q10, .inl (gJ G, 160, .inr (.inl z8))), (q11, .inl (gJ G, 40, .inr (.inl z8)))]) := h
  refine lv_iinc hx hb dX11_init_113 hl (k := 0) rfl (inc_1 _) (by decide) rfl (fun ls hl => ?_)
  refine lv_goto (tgt := 93) hx hb dX11_init_116 (by decide) ?_
  refine lv_iload_n hx hb dX11_init_93 rfl (lv_at hl 0 rfl) ?_
  refine lv_bipush (v := nI 6) hx hb dX11_init_94 (by decide) ?_
  refine n_cge hx hb (by decide) (by decide) (tgt := 119) dX11_init_96 (by decide) (fun q => absurd q (by decide)) (fun _ => ?_)
  refine lv_aload_n hx hb dX11_init_99 rfl (lv_at hl 1 rfl) ?_
  refine ct_get (v := .ref q1) S0 hG h inlX11 0 rfl rfl 0 (by decide) (rin5 _ (List.mem_of_getElem? (i := 15) rfl)) (fun _ h => h) rfl dX11_init_100 ?_
  refine lv_iconst (v := nI 2) hx hb dX11_init_103 (by decide) ?_
  refine lv_iload_n hx hb dX11_init_104 rfl (lv_at hl 0 rfl) ?_
  refine n_add hx hb dX11_init_105 ?_
  refine lv_iconst (v := nI 5) hx hb dX11_init_106 (by decide) ?_
  refine lv_iload_n hx hb dX11_init_107 rfl (lv_at hl 0 rfl) ?_
  refine n_mul hx hb dX11_init_108 ?_
  refine lv_bipush (v := nI 12) hx hb dX11_init_109 (by decide) ?_
  refine n_rem hx hb (by omega) (by decide) (by decide) dX11_init_111 ?_
  refine ct_iast S0 hG h 1 rfl (by decide) (by decide) dX11_init_112 (fun H locs h => ?_)
  have h : WX G A s _ _ ([(b0, .inr (11, [.ref q1, .ref q2, .ref q3, .ref q4, .ref q5, .ref q6, .int 0, .int 0, .ref q7, .int 0, .int 0, .int 0, .int 0, .int 0, .ref q8, .ref q9, .ref q10, .ref q11])), (q1, .inl (gI G, 51, .inl (fun i => nI ((va_up ((va_up ((va_up ((va_up (z0) 2 0)) 3 5)) 4 10)) 5 3) i)))), (q2, .inl (gI G, 51, .inl (fun i => nI (z0 i)))), (q3, .inl (gI G, 51, .inl (fun i => nI (z0 i)))), (q4, .inl (gI G, 51, .inl (fun i => nI (z0 i)))), (q5, .inl (gI G, 7, .inl (fun i => nI (z0 i)))), (q6, .inl (gI G, 8, .inl (fun i => nI (z0 i)))), (q7, .inl (gI G, 120, .inl (fun i => nI (z0 i)))), (q8, .inl (gI G, 4, .inl (fun i => nI (z0 i)))), (q9, .inl (gI G, 4, .inl (fun i => nI (z0 i)))), (q10, .inl (gJ G, 160, .inr (.inl z8))), (q11, .inl (gJ G, 40, .inr (.inl z8)))]) := h
  refine lv_iinc hx hb dX11_init_113 hl (k := 0) rfl (inc_1 _) (by decide) rfl (fun ls hl => ?_)
  refine lv_goto (tgt := 93) hx hb dX11_init_116 (by decide) ?_
  refine lv_iload_n hx hb dX11_init_93 rfl (lv_at hl 0 rfl) ?_
  refine lv_bipush (v := nI 6) hx hb dX11_init_94 (by decide) ?_
  refine n_cge hx hb (by decide) (by decide) (tgt := 119) dX11_init_96 (by decide) (fun q => absurd q (by decide)) (fun _ => ?_)
  refine lv_aload_n hx hb dX11_init_99 rfl (lv_at hl 1 rfl) ?_
  refine ct_get (v := .ref q1) S0 hG h inlX11 0 rfl rfl 0 (by decide) (rin5 _ (List.mem_of_getElem? (i := 15) rfl)) (fun _ h => h) rfl dX11_init_100 ?_
  refine lv_iconst (v := nI 2) hx hb dX11_init_103 (by decide) ?_
  refine lv_iload_n hx hb dX11_init_104 rfl (lv_at hl 0 rfl) ?_
  refine n_add hx hb dX11_init_105 ?_
  refine lv_iconst (v := nI 5) hx hb dX11_init_106 (by decide) ?_
  refine lv_iload_n hx hb dX11_init_107 rfl (lv_at hl 0 rfl) ?_
  refine n_mul hx hb dX11_init_108 ?_
  refine lv_bipush (v := nI 12) hx hb dX11_init_109 (by decide) ?_
  refine n_rem hx hb (by omega) (by decide) (by decide) dX11_init_111 ?_
  refine ct_iast S0 hG h 1 rfl (by decide) (by decide) dX11_init_112 (fun H locs h => ?_)
  have h : WX G A s _ _ ([(b0, .inr (11, [.ref q1, .ref q2, .ref q3, .ref q4, .ref q5, .ref q6, .int 0, .int 0, .ref q7, .int 0, .int 0, .int 0, .int 0, .int 0, .ref q8, .ref q9, .ref q10, .ref q11])), (q1, .inl (gI G, 51, .inl (fun i => nI ((va_up ((va_up ((va_up ((va_up ((va_up (z0) 2 0)) 3 5)) 4 10)) 5 3)) 6 8) i)))), (q2, .inl (gI G, 51, .inl (fun i => nI (z0 i)))), (q3, .inl (gI G, 51, .inl (fun i => nI (z0 i)))), (q4, .inl (gI G, 51, .inl (fun i => nI (z0 i)))), (q5, .inl (gI G, 7, .inl (fun i => nI (z0 i)))), (q6, .inl (gI G, 8, .inl (fun i => nI (z0 i)))), (q7, .inl (gI G, 120, .inl (fun i => nI (z0 i)))), (q8, .inl (gI G, 4, .inl (fun i => nI (z0 i)))), (q9, .inl (gI G, 4, .inl (fun i => nI (z0 i)))), (q10, .inl (gJ G, 160, .inr (.inl z8))), (q11, .inl (gJ G, 40, .inr (.inl z8)))]) := h
  refine lv_iinc hx hb dX11_init_113 hl (k := 0) rfl (inc_1 _) (by decide) rfl (fun ls hl => ?_)
  refine lv_goto (tgt := 93) hx hb dX11_init_116 (by decide) ?_
  refine lv_iload_n hx hb dX11_init_93 rfl (lv_at hl 0 rfl) ?_
  refine lv_bipush (v := nI 6) hx hb dX11_init_94 (by decide) ?_
  refine n_cge hx hb (by decide) (by decide) (tgt := 119) dX11_init_96 (by decide) (fun q => absurd q (by decide)) (fun _ => ?_)
  refine lv_aload_n hx hb dX11_init_99 rfl (lv_at hl 1 rfl) ?_
  refine ct_get (v := .ref q1) S0 hG h inlX11 0 rfl rfl 0 (by decide) (rin5 _ (List.mem_of_getElem? (i := 15) rfl)) (fun _ h => h) rfl dX11_init_100 ?_
  refine lv_iconst (v := nI 2) hx hb dX11_init_103 (by decide) ?_
  refine lv_iload_n hx hb dX11_init_104 rfl (lv_at hl 0 rfl) ?_
  refine n_add hx hb dX11_init_105 ?_
  refine lv_iconst (v := nI 5) hx hb dX11_init_106 (by decide) ?_
  refine lv_iload_n hx hb dX11_init_107 rfl (lv_at hl 0 rfl) ?_
  refine n_mul hx hb dX11_init_108 ?_
  refine lv_bipush (v := nI 12) hx hb dX11_init_109 (by decide) ?_
  refine n_rem hx hb (by omega) (by decide) (by decide) dX11_init_111 ?_
  refine ct_iast S0 hG h 1 rfl (by decide) (by decide) dX11_init_112 (fun H locs h => ?_)
  have h : WX G A s _ _ ([(b0, .inr (11, [.ref q1, .ref q2, .ref q3, .ref q4, .ref q5, .ref q6, .int 0, .int 0, .ref q7, .int 0, .int 0, .int 0, .int 0, .int 0, .ref q8, .ref q9, .ref q10, .ref q11])), (q1, .inl (gI G, 51, .inl (fun i => nI ((va_up ((va_up ((va_up ((va_up ((va_up ((va_up (z0) 2 0)) 3 5)) 4 10)) 5 3)) 6 8)) 7 1) i)))), (q2, .inl (gI G, 51, .inl (fun i => nI (z0 i)))), (q3, .inl (gI G, 51, .inl (fun i => nI (z0 i)))), (q4, .inl (gI G, 51, .inl (fun i => nI (z0 i)))), (q5, .inl (gI G, 7, .inl (fun i => nI (z0 i)))), (q6, .inl (gI G, 8, .inl (fun i => nI (z0 i)))), (q7, .inl (gI G, 120, .inl (fun i => nI (z0 i)))), (q8, .inl (gI G, 4, .inl (fun i => nI (z0 i)))), (q9, .inl (gI G, 4, .inl (fun i => nI (z0 i)))), (q10, .inl (gJ G, 160, .inr (.inl z8))), (q11, .inl (gJ G, 40, .inr (.inl z8)))]) := h
  refine lv_iinc hx hb dX11_init_113 hl (k := 0) rfl (inc_1 _) (by decide) rfl (fun ls hl => ?_)
  refine lv_goto (tgt := 93) hx hb dX11_init_116 (by decide) ?_
  refine lv_iload_n hx hb dX11_init_93 rfl (lv_at hl 0 rfl) ?_
  refine lv_bipush (v := nI 6) hx hb dX11_init_94 (by decide) ?_
  refine n_cge hx hb (by decide) (by decide) (tgt := 119) dX11_init_96 (by decide) (fun _ => ?_) (fun q => absurd q (by decide))
  refine lv_iconst (v := nI 0) hx hb dX11_init_119 (by decide) ?_
  refine lv_istore_n hx hb dX11_init_120 rfl hl (by decide) rfl (fun ls hl => ?_)
  refine lv_iload_n hx hb dX11_init_121 rfl (lv_at hl 0 rfl) ?_
  refine lv_iconst (v := nI 3) hx hb dX11_init_122 (by decide) ?_
  refine n_cge hx hb (by decide) (by decide) (tgt := 148) dX11_init_123 (by decide) (fun q => absurd q (by decide)) (fun _ => ?_)
  refine lv_aload_n hx hb dX11_init_126 rfl (lv_at hl 1 rfl) ?_
  refine ct_get (v := .ref q1) S0 hG h inlX11 0 rfl rfl 0 (by decide) (rin5 _ (List.mem_of_getElem? (i := 15) rfl)) (fun _ h => h) rfl dX11_init_127 ?_
  refine lv_bipush (v := nI 8) hx hb dX11_init_130 (by decide) ?_
  refine lv_iload_n hx hb dX11_init_132 rfl (lv_at hl 0 rfl) ?_
  refine n_add hx hb dX11_init_133 ?_
  refine lv_bipush (v := nI 10) hx hb dX11_init_134 (by decide) ?_
  refine lv_iload_n hx hb dX11_init_136 rfl (lv_at hl 0 rfl) ?_
  refine n_mul hx hb dX11_init_137 ?_
  refine lv_bipush (v := nI 10) hx hb dX11_init_138 (by decide) ?_
  refine n_add hx hb dX11_init_140 ?_
  refine ct_iast S0 hG h 1 rfl (by decide) (by decide) dX11_init_141 (fun H locs h => ?_)
  have h : WX G A s _ _ ([(b0, .inr (11, [.ref q1, .ref q2, .ref q3, .ref q4, .ref q5, .ref q6, .int 0, .int 0, .ref q7, .int 0, .int 0, .int 0, .int 0, .int 0, .ref q8, .ref q9, .ref q10, .ref q11])), (q1, .inl (gI G, 51, .inl (fun i => nI ((va_up ((va_up ((va_up ((va_up ((va_up ((va_up ((va_up (z0) 2 0)) 3 5)) 4 10)) 5 3)) 6 8)) 7 1)) 8 10) i)))), (q2, .inl (gI G, 51, .inl (fun i => nI (z0 i)))), (q3, .inl (gI G, 51, .inl (fun i => nI (z0 i)))), (q4, .inl (gI G, 51, .inl (fun i => nI (z0 i)))), (q5, .inl (gI G, 7, .inl (fun i => nI (z0 i)))), (q6, .inl (gI G, 8, .inl (fun i => nI (z0 i)))), (q7, .inl (gI G, 120, .inl (fun i => nI (z0 i)))), (q8, .inl (gI G, 4, .inl (fun i => nI (z0 i)))), (q9, .inl (gI G, 4, .inl (fun i => nI (z0 i)))), (q10, .inl (gJ G, 160, .inr (.inl z8))), (q11, .inl (gJ G, 40, .inr (.inl z8)))]) := h
  refine lv_iinc hx hb dX11_init_142 hl (k := 0) rfl (inc_1 _) (by decide) rfl (fun ls hl => ?_)
  refine lv_goto (tgt := 121) hx hb dX11_init_145 (by decide) ?_
  refine lv_iload_n hx hb dX11_init_121 rfl (lv_at hl 0 rfl) ?_
  refine lv_iconst (v := nI 3) hx hb dX11_init_122 (by decide) ?_
  refine n_cge hx hb (by decide) (by decide) (tgt := 148) dX11_init_123 (by decide) (fun q => absurd q (by decide)) (fun _ => ?_)
  refine lv_aload_n hx hb dX11_init_126 rfl (lv_at hl 1 rfl) ?_
  refine ct_get (v := .ref q1) S0 hG h inlX11 0 rfl rfl 0 (by decide) (rin5 _ (List.mem_of_getElem? (i := 15) rfl)) (fun _ h => h) rfl dX11_init_127 ?_
  refine lv_bipush (v := nI 8) hx hb dX11_init_130 (by decide) ?_
  refine lv_iload_n hx hb dX11_init_132 rfl (lv_at hl 0 rfl) ?_
  refine n_add hx hb dX11_init_133 ?_
  refine lv_bipush (v := nI 10) hx hb dX11_init_134 (by decide) ?_
  refine lv_iload_n hx hb dX11_init_136 rfl (lv_at hl 0 rfl) ?_
  refine n_mul hx hb dX11_init_137 ?_
  refine lv_bipush (v := nI 10) hx hb dX11_init_138 (by decide) ?_
  refine n_add hx hb dX11_init_140 ?_
  refine ct_iast S0 hG h 1 rfl (by decide) (by decide) dX11_init_141 (fun H locs h => ?_)
  have h : WX G A s _ _ ([(b0, .inr (11, [.ref q1, .ref q2, .ref q3, .ref q4, .ref q5, .ref q6, .int 0, .int 0, .ref q7, .int 0, .int 0, .int 0, .int 0, .int 0, .ref q8, .ref q9, .ref q10, .ref q11])), (q1, .inl (gI G, 51, .inl (fun i => nI ((va_up ((va_up ((va_up ((va_up ((va_up ((va_up ((va_up ((va_up (z0) 2 0)) 3 5)) 4 10)) 5 3)) 6 8)) 7 1)) 8 10)) 9 20) i)))), (q2, .inl (gI G, 51, .inl (fun i => nI (z0 i)))), (q3, .inl (gI G, 51, .inl (fun i => nI (z0 i)))), (q4, .inl (gI G, 51, .inl (fun i => nI (z0 i)))), (q5, .inl (gI G, 7, .inl (fun i => nI (z0 i)))), (q6, .inl (gI G, 8, .inl (fun i => nI (z0 i)))), (q7, .inl (gI G, 120, .inl (fun i => nI (z0 i)))), (q8, .inl (gI G, 4, .inl (fun i => nI (z0 i)))), (q9, .inl (gI G, 4, .inl (fun i => nI (z0 i)))), (q10, .inl (gJ G, 160, .inr (.inl z8))), (q11, .inl (gJ G, 40, .inr (.inl z8)))]) := h
  refine lv_iinc hx hb dX11_init_142 hl (k := 0) rfl (inc_1 _) (by decide) rfl (fun ls hl => ?_)
  refine lv_goto (tgt := 121) hx hb dX11_init_145 (by decide) ?_
  refine lv_iload_n hx hb dX11_init_121 rfl (lv_at hl 0 rfl) ?_
  refine lv_iconst (v := nI 3) hx hb dX11_init_122 (by decide) ?_
  refine n_cge hx hb (by decide) (by decide) (tgt := 148) dX11_init_123 (by decide) (fun q => absurd q (by decide)) (fun _ => ?_)
  refine lv_aload_n hx hb dX11_init_126 rfl (lv_at hl 1 rfl) ?_
  refine ct_get (v := .ref q1) S0 hG h inlX11 0 rfl rfl 0 (by decide) (rin5 _ (List.mem_of_getElem? (i := 15) rfl)) (fun _ h => h) rfl dX11_init_127 ?_
  refine lv_bipush (v := nI 8) hx hb dX11_init_130 (by decide) ?_
  refine lv_iload_n hx hb dX11_init_132 rfl (lv_at hl 0 rfl) ?_
  refine n_add hx hb dX11_init_133 ?_
  refine lv_bipush (v := nI 10) hx hb dX11_init_134 (by decide) ?_
  refine lv_iload_n hx hb dX11_init_136 rfl (lv_at hl 0 rfl) ?_
  refine n_mul hx hb dX11_init_137 ?_
  refine lv_bipush (v := nI 10) hx hb dX11_init_138 (by decide) ?_
  refine n_add hx hb dX11_init_140 ?_
  refine ct_iast S0 hG h 1 rfl (by decide) (by decide) dX11_init_141 (fun H locs h => ?_)
  have h : WX G A s _ _ ([(b0, .inr (11, [.ref q1, .ref q2, .ref q3, .ref q4, .ref q5, .ref q6, .int 0, .int 0, .ref q7, .int 0, .int 0, .int 0, .int 0, .int 0, .ref q8, .ref q9, .ref q10, .ref q11])), (q1, .inl (gI G, 51, .inl (fun i => nI ((va_up ((va_up ((va_up ((va_up ((va_up ((va_up ((va_up ((va_up ((va_up (z0) 2 0)) 3 5)) 4 10)) 5 3)) 6 8)) 7 1)) 8 10)) 9 20)) 10 30) i)))), (q2, .inl (gI G, 51, .inl (fun i => nI (z0 i)))), (q3, .inl (gI G, 51, .inl (fun i => nI (z0 i)))), (q4, .inl (gI G, 51, .inl (fun i => nI (z0 i)))), (q5, .inl (gI G, 7, .inl (fun i => nI (z0 i)))), (q6, .inl (gI G, 8, .inl (fun i => nI (z0 i)))), (q7, .inl (gI G, 120, .inl (fun i => nI (z0 i)))), (q8, .inl (gI G, 4, .inl (fun i => nI (z0 i)))), (q9, .inl (gI G, 4, .inl (fun i => nI (z0 i)))), (q10, .inl (gJ G, 160, .inr (.inl z8))), (q11, .inl (gJ G, 40, .inr (.inl z8)))]) := h
  refine lv_iinc hx hb dX11_init_142 hl (k := 0) rfl (inc_1 _) (by decide) rfl (fun ls hl => ?_)
  refine lv_goto (tgt := 121) hx hb dX11_init_145 (by decide) ?_
  refine lv_iload_n hx hb dX11_init_121 rfl (lv_at hl 0 rfl) ?_
  refine lv_iconst (v := nI 3) hx hb dX11_init_122 (by decide) ?_
  refine n_cge hx hb (by decide) (by decide) (tgt := 148) dX11_init_123 (by decide) (fun _ => ?_) (fun q => absurd q (by decide))
  exact hret (fun i => [b0, q1, q2, q3, q4, q5, q6, q7, q8, q9, q10, q11].getD i 0) _ _ _ _ (h.ext_i (f2 := fun i => nI (f0 i)) 1 rfl (fun i hi => nI_cong ((show ∀ i, i < 51 → (va_up ((va_up ((va_up ((va_up ((va_up ((va_up ((va_up ((va_up ((va_up (z0) 2 0)) 3 5)) 4 10)) 5 3)) 6 8)) 7 1)) 8 10)) 9 20)) 10 30) i = f0 i by decide) i hi))) dX11_init_148
