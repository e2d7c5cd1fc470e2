/-! the kinds -/
theorem max_nI : ∀ z, z < 12 → (if nI 0 < nI z - nI 1 then nI z - nI 1 else nI 0) = nI (z - 1) := by decide +kernel
variable {G : GT} {l : Launch} {a : Nat → Nat} {f : Nat → Nat} {q sp : Nat} {rg : Int32} {wd : Nat → Nat} {it : Nat}
set_option maxHeartbeats 4000000 in
set_option maxRecDepth 100000 in
theorem c_X4_due {b : Nat} {x : Nat} : Ki G l yX4_due cX4_due 3 (some .int) (RM 1 0) [.ref b, .ref (a 0), .int (nI x)] (wF G a f q sp rg wd it) (fun u : Unit => wF G a f q sp rg wd it) (fun r _ => r = nI sp) := by
  refine Ki.of (by decide) (Nat.le_of_ble_eq_true rfl) ?_
  intro p e s m args below meth c A Q ls hx hb S0 hG hA h hret hl
  have S0 : CF p m c cX4_due 3 s args RX4 := S0
  have hl : lv_has ls 3 [(0, .ref b), (1, .ref (a 0)), (2, .int (nI x))] := hl
  refine lv_aload_n hx hb dX4_due_0 rfl (lv_at hl 1 rfl) ?_
  refine gF_RX4_spot S0 hG h dX4_due_1 ?_
  exact hret _ () _ _ _ _ rfl h dX4_due_4
set_option maxHeartbeats 4000000 in
set_option maxRecDepth 100000 in
theorem c_X4_hears {b : Nat} {x : Nat} (hx1 : x < 8) (hI : Inv f) : Ki G l yX4_hears cX4_hears 3 (some .boolean) (RM 1 0) [.ref b, .ref (a 0), .int (nI x)] (wF G a f q sp rg wd it) (fun u : Unit => wF G a f q sp rg wd it) (fun r _ => (r = nI 1 ∧ its f x 3 < 10) ∨ (r = nI 0 ∧ 10 ≤ its f x 3)) := by
  refine Ki.ofz (by decide) (Nat.le_of_ble_eq_true rfl) ?_
  intro p e s m args below meth c A Q ls hx hb S0 hG hA h hret hl
  have S0 : CF p m c cX4_hears 3 s args RX4 := S0
  have hl : lv_has ls 3 [(0, .ref b), (1, .ref (a 0)), (2, .int (nI x))] := hl
  have h5 := hI.2.2.2.2 x hx1
  refine lv_aload_n hx hb dX4_hears_0 rfl (lv_at hl 1 rfl) ?_
  refine gF_RX4_played S0 hG h dX4_hears_1 ?_
  refine lv_iload_n hx hb dX4_hears_4 rfl (lv_at hl 2 rfl) ?_
  refine rF_played S0 hG h (by omega) dX4_hears_5 ?_
  refine lv_bipush (v := nI 10) hx hb dX4_hears_6 (by decide) ?_
  refine n_cge hx hb (by omega) (by omega) (tgt := 15) dX4_hears_8 (by decide) (fun c8 => ?_) (fun c8 => ?_)
  ·
    refine lv_iconst (v := nI 0) hx hb dX4_hears_15 (by decide) ?_
    exact hret _ () _ _ _ _ (by decide) (Or.inr ⟨rfl, c8⟩) h dX4_hears_16
  ·
    refine lv_iconst (v := nI 1) hx hb dX4_hears_11 (by decide) ?_
    refine lv_goto (tgt := 16) hx hb dX4_hears_12 (by decide) ?_
    exact hret _ () _ _ _ _ (by decide) (Or.inl ⟨rfl, c8⟩) h dX4_hears_16
set_option maxHeartbeats 4000000 in
set_option maxRecDepth 100000 in
theorem c_X4_walks {b : Nat} {x : Nat} (hx1 : x < 8) {y : Nat} : Ki G l yX4_walks cX4_walks 4 (some .int) (RM 1 0) [.ref b, .ref (a 0), .int (nI x), .int (nI y)] (wF G a f q sp rg wd it) (fun u : Unit => wF G a f q sp rg wd it) (fun r _ => r = nI (its f x 2)) := by
  refine Ki.of (by decide) (Nat.le_of_ble_eq_true rfl) ?_
  intro p e s m args below meth c A Q ls hx hb S0 hG hA h hret hl
  have S0 : CF p m c cX4_walks 4 s args RX4 := S0
  have hl : lv_has ls 4 [(0, .ref b), (1, .ref (a 0)), (2, .int (nI x)), (3, .int (nI y))] := hl
  refine lv_aload_n hx hb dX4_walks_0 rfl (lv_at hl 1 rfl) ?_
  refine gF_RX4_quick S0 hG h dX4_walks_1 ?_
  refine lv_iload_n hx hb dX4_walks_4 rfl (lv_at hl 2 rfl) ?_
  refine rF_quick S0 hG h (by omega) dX4_walks_5 ?_
  exact hret _ () _ _ _ _ rfl h dX4_walks_6
set_option maxHeartbeats 4000000 in
set_option maxRecDepth 100000 in
theorem c_X4_spoils {b : Nat} : Ki G l yX4_spoils cX4_spoils 1 (some .int) (RM 1 0) [.ref b] (wF G a f q sp rg wd it) (fun u : Unit => wF G a f q sp rg wd it) (fun r _ => r = nI 1) := by
  refine Ki.of (by decide) (Nat.le_of_ble_eq_true rfl) ?_
  intro p e s m args below meth c A Q ls hx hb S0 hG hA h hret hl
  have S0 : CF p m c cX4_spoils 1 s args RX4 := S0
  have hl : lv_has ls 1 [(0, .ref b)] := hl
  refine lv_iconst (v := nI 1) hx hb dX4_spoils_0 (by decide) ?_
  exact hret _ () _ _ _ _ rfl h dX4_spoils_1
set_option maxHeartbeats 4000000 in
set_option maxRecDepth 100000 in
theorem c_X2_due {b : Nat} {x : Nat} (hsp : sp ≤ 11) : Ki G l yX2_due cX2_due 3 (some .int) (RM 1 0) [.ref b, .ref (a 0), .int (nI x)] (wF G a f q sp rg wd it) (fun u : Unit => wF G a f q sp rg wd it) (fun r _ => r = nI (11 - sp)) := by
  refine Ki.of (by decide) (Nat.le_of_ble_eq_true rfl) ?_
  intro p e s m args below meth c A Q ls hx hb S0 hG hA h hret hl
  have S0 : CF p m c cX2_due 3 s args RX2 := S0
  have hl : lv_has ls 3 [(0, .ref b), (1, .ref (a 0)), (2, .int (nI x))] := hl
  refine lv_bipush (v := nI 11) hx hb dX2_due_0 (by decide) ?_
  refine lv_aload_n hx hb dX2_due_2 rfl (lv_at hl 1 rfl) ?_
  refine gF_RX2_spot S0 hG h dX2_due_3 ?_
  refine n_sub hx hb (by omega) dX2_due_6 ?_
  exact hret _ () _ _ _ _ rfl h dX2_due_7
theorem kw_RX2_23 : GoodIn wsL_law (va_wsSU RX2 23 yX4_spoils (WS yX4_spoils cX4_spoils 1 (some .int))) := gSU (rin17 _ (List.mem_of_getElem? (i := 9) rfl)) (rin16 _ (List.mem_of_getElem? (i := 20) rfl)) (rin16 _ (List.mem_of_getElem? (i := 8) rfl)) (rin17 _ (List.mem_of_getElem? (i := 10) rfl)) (rin2 _ (List.mem_of_getElem? (i := 23) rfl)) (rin17 _ (List.mem_of_getElem? (i := 5) rfl))
theorem kdU_X4_spoils : yX4_spoils.name ≠ "<init>" ∧ (parseMethodDescriptor yX4_spoils.desc).map (fun d => d.parameters.length) = some 0 := ⟨by decide +kernel, by decide +kernel⟩
set_option maxHeartbeats 4000000 in
set_option maxRecDepth 100000 in
theorem c_X2_spoils {b q0 ci : Nat} {C0 : String} {T0 : u_T} {N0 : Nat} {fs0 : List Value} (hc0 : vwCl[ci]? = some (C0, T0, N0)) (he0 : (wF G a f q sp rg wd it)[q0]? = some (b, .inr (ci, fs0))) : Ki G l yX2_spoils cX2_spoils 1 (some .int) (RM 2 20) [.ref b] (wF G a f q sp rg wd it) (fun u : Unit => wF G a f q sp rg wd it) (fun r _ => r = nI 2) := by
  refine Ki.of (by decide) (Nat.le_of_ble_eq_true rfl) ?_
  intro p e s m args below meth c A Q ls hx hb S0 hG hA h hret hl
  have S0 : CF p m c cX2_spoils 1 s args RX2 := S0
  have hl : lv_has ls 1 [(0, .ref b)] := hl
  refine lv_aload_n hx hb dX2_spoils_0 rfl (lv_at hl 0 rfl) ?_
  refine cSU_i0 S0 hG hA h hl.1 kw_RX2_23 kdU_X4_spoils (c_X4_spoils) ⟨rfl, rfl, by decide, by decide, Nat.le_refl _, Nat.le_refl _⟩ rfl ci q0 hc0 he0 rfl (Nat.le_of_ble_eq_true rfl) dX2_spoils_1 (fun _ => rfl) (fun r u H locs hq h => ?_)
  obtain rfl := hq
  refine lv_iconst (v := nI 1) hx hb dX2_spoils_4 (by decide) ?_
  refine n_add hx hb dX2_spoils_5 ?_
  exact hret _ () _ _ _ _ rfl h dX2_spoils_6
theorem kw_RX8_15 : GoodIn wsL_law (va_wsSU RX8 15 yX4_due (WS yX4_due cX4_due 3 (some .int))) := gSU (rin10 _ (List.mem_of_getElem? (i := 11) rfl)) (rin10 _ (List.mem_of_getElem? (i := 1) rfl)) (rin10 _ (List.mem_of_getElem? (i := 12) rfl)) (rin10 _ (List.mem_of_getElem? (i := 13) rfl)) (rin2 _ (List.mem_of_getElem? (i := 23) rfl)) (rin10 _ (List.mem_of_getElem? (i := 14) rfl))
theorem kdU_X4_due : yX4_due.name ≠ "<init>" ∧ (parseMethodDescriptor yX4_due.desc).map (fun d => d.parameters.length) = some 2 := ⟨by decide +kernel, by decide +kernel⟩
set_option maxHeartbeats 4000000 in
set_option maxRecDepth 100000 in
theorem c_X8_due {b q0 ci : Nat} {C0 : String} {T0 : u_T} {N0 : Nat} {fs0 : List Value} (hc0 : vwCl[ci]? = some (C0, T0, N0)) (he0 : (wF G a f q sp rg wd it)[q0]? = some (b, .inr (ci, fs0))) {x : Nat} (hq6 : q < 6) : Ki G l yX8_due cX8_due 3 (some .int) (RM 2 22) [.ref b, .ref (a 0), .int (nI x)] (wF G a f q sp rg wd it) (fun u : Unit => wF G a f q sp rg wd it) (fun r _ => r = nI (if q % 2 = 1 then 11 else sp)) := by
  refine Ki.of (by decide) (Nat.le_of_ble_eq_true rfl) ?_
  intro p e s m args below meth c A Q ls hx hb S0 hG hA h hret hl
  have S0 : CF p m c cX8_due 3 s args RX8 := S0
  have hl : lv_has ls 3 [(0, .ref b), (1, .ref (a 0)), (2, .int (nI x))] := hl
  refine lv_aload_n hx hb dX8_due_0 rfl (lv_at hl 1 rfl) ?_
  refine gF_RX8_quarter S0 hG h dX8_due_1 ?_
  refine lv_iconst (v := nI 2) hx hb dX8_due_4 (by decide) ?_
  refine n_rem hx hb (by omega) (by decide) (by decide) dX8_due_5 ?_
  refine lv_iconst (v := nI 1) hx hb dX8_due_6 (by decide) ?_
  refine n_cne hx hb (by omega) (by omega) (tgt := 15) dX8_due_7 (by decide) (fun c7 => ?_) (fun c7 => ?_)
  ·
    refine lv_aload_n hx hb dX8_due_15 rfl (lv_at hl 0 rfl) ?_
    refine lv_aload_n hx hb dX8_due_16 rfl (lv_at hl 1 rfl) ?_
    refine lv_iload_n hx hb dX8_due_17 rfl (lv_at hl 2 rfl) ?_
    refine cSU_i0 S0 hG hA h hl.1 kw_RX8_15 kdU_X4_due (c_X4_due) ⟨rfl, rfl, by decide, by decide, Nat.le_refl _, Nat.le_refl _⟩ rfl ci q0 hc0 he0 rfl (Nat.le_of_ble_eq_true rfl) dX8_due_18 (fun _ => rfl) (fun r u H locs hq h => ?_)
    obtain rfl := hq
    exact hret _ () _ _ _ _ (nI_cong (by rw [if_neg c7])) h dX8_due_21
  ·
    refine lv_bipush (v := nI 11) hx hb dX8_due_10 (by decide) ?_
    refine lv_goto (tgt := 21) hx hb dX8_due_12 (by decide) ?_
    exact hret _ () _ _ _ _ (nI_cong (by rw [if_pos c7])) h dX8_due_21
set_option maxHeartbeats 4000000 in
set_option maxRecDepth 100000 in
theorem c_X8_hears {b : Nat} {x : Nat} : Ki G l yX8_hears cX8_hears 3 (some .boolean) (RM 1 0) [.ref b, .ref (a 0), .int (nI x)] (wF G a f q sp rg wd it) (fun u : Unit => wF G a f q sp rg wd it) (fun r _ => r = nI 1) := by
  refine Ki.ofz (by decide) (Nat.le_of_ble_eq_true rfl) ?_
  intro p e s m args below meth c A Q ls hx hb S0 hG hA h hret hl
  have S0 : CF p m c cX8_hears 3 s args RX8 := S0
  have hl : lv_has ls 3 [(0, .ref b), (1, .ref (a 0)), (2, .int (nI x))] := hl
  refine lv_iconst (v := nI 1) hx hb dX8_hears_0 (by decide) ?_
  exact hret _ () _ _ _ _ (by decide) rfl h dX8_hears_1
set_option maxHeartbeats 4000000 in
set_option maxRecDepth 100000 in
theorem c_X5_hears {b : Nat} {x : Nat} : Ki G l yX5_hears cX5_hears 3 (some .boolean) (RM 1 0) [.ref b, .ref (a 0), .int (nI x)] (wF G a f q sp rg wd it) (fun u : Unit => wF G a f q sp rg wd it) (fun r _ => r = nI 0) := by
  refine Ki.ofz (by decide) (Nat.le_of_ble_eq_true rfl) ?_
  intro p e s m args below meth c A Q ls hx hb S0 hG hA h hret hl
  have S0 : CF p m c cX5_hears 3 s args RX5 := S0
  have hl : lv_has ls 3 [(0, .ref b), (1, .ref (a 0)), (2, .int (nI x))] := hl
  refine lv_iconst (v := nI 0) hx hb dX5_hears_0 (by decide) ?_
  exact hret _ () _ _ _ _ (by decide) rfl h dX5_hears_1
set_option maxHeartbeats 4000000 in
set_option maxRecDepth 100000 in
theorem c_X1_hears {b : Nat} {x : Nat} : Ki G l yX1_hears cX1_hears 3 (some .boolean) (RM 1 0) [.ref b, .ref (a 0), .int (nI x)] (wF G a f q sp rg wd it) (fun u : Unit => wF G a f q sp rg wd it) (fun r _ => r = nI 0) := by
  refine Ki.ofz (by decide) (Nat.le_of_ble_eq_true rfl) ?_
  intro p e s m args below meth c A Q ls hx hb S0 hG hA h hret hl
  have S0 : CF p m c cX1_hears 3 s args RX1 := S0
  have hl : lv_has ls 3 [(0, .ref b), (1, .ref (a 0)), (2, .int (nI x))] := hl
  refine lv_iconst (v := nI 0) hx hb dX1_hears_0 (by decide) ?_
  exact hret _ () _ _ _ _ (by decide) rfl h dX1_hears_1
set_option maxHeartbeats 4000000 in
set_option maxRecDepth 100000 in
theorem c_X8_walks {b : Nat} {x y : Nat} : Ki G l yX8_walks cX8_walks 4 (some .int) (RM 1 0) [.ref b, .ref (a 0), .int (nI x), .int (nI y)] (wF G a f q sp rg wd it) (fun u : Unit => wF G a f q sp rg wd it) (fun r _ => r = nI 1) := by
  refine Ki.of (by decide) (Nat.le_of_ble_eq_true rfl) ?_
  intro p e s m args below meth c A Q ls hx hb S0 hG hA h hret hl
  have S0 : CF p m c cX8_walks 4 s args RX8 := S0
  have hl : lv_has ls 4 [(0, .ref b), (1, .ref (a 0)), (2, .int (nI x)), (3, .int (nI y))] := hl
  refine lv_iconst (v := nI 1) hx hb dX8_walks_0 (by decide) ?_
  exact hret _ () _ _ _ _ rfl h dX8_walks_1
set_option maxHeartbeats 4000000 in
set_option maxRecDepth 100000 in
theorem c_X8_spoils {b : Nat} : Ki G l yX8_spoils cX8_spoils 1 (some .int) (RM 1 0) [.ref b] (wF G a f q sp rg wd it) (fun u : Unit => wF G a f q sp rg wd it) (fun r _ => r = nI 0) := by
  refine Ki.of (by decide) (Nat.le_of_ble_eq_true rfl) ?_
  intro p e s m args below meth c A Q ls hx hb S0 hG hA h hret hl
  have S0 : CF p m c cX8_spoils 1 s args RX8 := S0
  have hl : lv_has ls 1 [(0, .ref b)] := hl
  refine lv_iconst (v := nI 0) hx hb dX8_spoils_0 (by decide) ?_
  exact hret _ () _ _ _ _ rfl h dX8_spoils_1
set_option maxHeartbeats 4000000 in
set_option maxRecDepth 100000 in
theorem c_X5_spoils {b : Nat} : Ki G l yX5_spoils cX5_spoils 1 (some .int) (RM 1 0) [.ref b] (wF G a f q sp rg wd it) (fun u : Unit => wF G a f q sp rg wd it) (fun r _ => r = nI 5) := by
  refine Ki.of (by decide) (Nat.le_of_ble_eq_true rfl) ?_
  intro p e s m args below meth c A Q ls hx hb S0 hG hA h hret hl
  have S0 : CF p m c cX5_spoils 1 s args RX5 := S0
  have hl : lv_has ls 1 [(0, .ref b)] := hl
  refine lv_iconst (v := nI 5) hx hb dX5_spoils_0 (by decide) ?_
  exact hret _ () _ _ _ _ rfl h dX5_spoils_1
set_option maxHeartbeats 4000000 in
set_option maxRecDepth 100000 in
theorem c_X5_due {b : Nat} {x : Nat} (hx1 : x < 8) (hI : Inv f) : Ki G l yX5_due cX5_due 3 (some .int) (RM 1 0) [.ref b, .ref (a 0), .int (nI x)] (wF G a f q sp rg wd it) (fun u : Unit => wF G a f q sp rg wd it) (fun r _ => r = nI ((its f x 1 + 1) % 12)) := by
  refine Ki.of (by decide) (Nat.le_of_ble_eq_true rfl) ?_
  intro p e s m args below meth c A Q ls hx hb S0 hG hA h hret hl
  have S0 : CF p m c cX5_due 3 s args RX5 := S0
  have hl : lv_has ls 3 [(0, .ref b), (1, .ref (a 0)), (2, .int (nI x))] := hl
  have h5 := hI.2.2.2.2 x hx1
  refine lv_aload_n hx hb dX5_due_0 rfl (lv_at hl 1 rfl) ?_
  refine gF_RX5_at S0 hG h dX5_due_1 ?_
  refine lv_iload_n hx hb dX5_due_4 rfl (lv_at hl 2 rfl) ?_
  refine rF_at S0 hG h (by omega) dX5_due_5 ?_
  refine lv_bipush (v := nI 11) hx hb dX5_due_6 (by decide) ?_
  refine n_clt hx hb (by omega) (by omega) (tgt := 15) dX5_due_8 (by decide) (fun c8 => ?_) (fun c8 => ?_)
  ·
    refine lv_aload_n hx hb dX5_due_15 rfl (lv_at hl 1 rfl) ?_
    refine gF_RX5_at S0 hG h dX5_due_16 ?_
    refine lv_iload_n hx hb dX5_due_19 rfl (lv_at hl 2 rfl) ?_
    refine rF_at S0 hG h (by omega) dX5_due_20 ?_
    refine lv_iconst (v := nI 1) hx hb dX5_due_21 (by decide) ?_
    refine n_add hx hb dX5_due_22 ?_
    exact hret _ () _ _ _ _ (nI_cong (by omega)) h dX5_due_23
  ·
    refine lv_iconst (v := nI 0) hx hb dX5_due_11 (by decide) ?_
    refine lv_goto (tgt := 23) hx hb dX5_due_12 (by decide) ?_
    exact hret _ () _ _ _ _ (nI_cong (by omega)) h dX5_due_23
theorem kw_RX5_15 : GoodIn wsL_law (va_wsSU RX5 15 yX4_walks (WS yX4_walks cX4_walks 4 (some .int))) := gSU (rin16 _ (List.mem_of_getElem? (i := 15) rfl)) (rin15 _ (List.mem_of_getElem? (i := 15) rfl)) (rin16 _ (List.mem_of_getElem? (i := 16) rfl)) (rin16 _ (List.mem_of_getElem? (i := 9) rfl)) (rin2 _ (List.mem_of_getElem? (i := 23) rfl)) (rin16 _ (List.mem_of_getElem? (i := 0) rfl))
theorem kdU_X4_walks : yX4_walks.name ≠ "<init>" ∧ (parseMethodDescriptor yX4_walks.desc).map (fun d => d.parameters.length) = some 3 := ⟨by decide +kernel, by decide +kernel⟩
set_option maxHeartbeats 4000000 in
set_option maxRecDepth 100000 in
theorem c_X5_walks {b q0 ci : Nat} {C0 : String} {T0 : u_T} {N0 : Nat} {fs0 : List Value} (hc0 : vwCl[ci]? = some (C0, T0, N0)) (he0 : (wF G a f q sp rg wd it)[q0]? = some (b, .inr (ci, fs0))) {x : Nat} (hx1 : x < 8) {y : Nat} : Ki G l yX5_walks cX5_walks 4 (some .int) (RM 2 23) [.ref b, .ref (a 0), .int (nI x), .int (nI y)] (wF G a f q sp rg wd it) (fun u : Unit => wF G a f q sp rg wd it) (fun r _ => r = nI (2 * its f x 2)) := by
  refine Ki.of (by decide) (Nat.le_of_ble_eq_true rfl) ?_
  intro p e s m args below meth c A Q ls hx hb S0 hG hA h hret hl
  have S0 : CF p m c cX5_walks 4 s args RX5 := S0
  have hl : lv_has ls 4 [(0, .ref b), (1, .ref (a 0)), (2, .int (nI x)), (3, .int (nI y))] := hl
  refine lv_iconst (v := nI 2) hx hb dX5_walks_0 (by decide) ?_
  refine lv_aload_n hx hb dX5_walks_1 rfl (lv_at hl 0 rfl) ?_
  refine lv_aload_n hx hb dX5_walks_2 rfl (lv_at hl 1 rfl) ?_
  refine lv_iload_n hx hb dX5_walks_3 rfl (lv_at hl 2 rfl) ?_
  refine lv_iload_n hx hb dX5_walks_4 rfl (lv_at hl 3 rfl) ?_
  refine cSU_i0 S0 hG hA h hl.1 kw_RX5_15 kdU_X4_walks (c_X4_walks (by omega)) ⟨rfl, rfl, by decide, by decide, Nat.le_refl _, Nat.le_refl _⟩ rfl ci q0 hc0 he0 rfl (Nat.le_of_ble_eq_true rfl) dX5_walks_5 (fun _ => rfl) (fun r u H locs hq h => ?_)
  obtain rfl := hq
  refine n_mul hx hb dX5_walks_8 ?_
  exact hret _ () _ _ _ _ rfl h dX5_walks_9
theorem kw_RX1_15 : GoodIn wsL_law (va_wsSU RX1 15 yX8_due (WS yX8_due cX8_due 3 (some .int))) := gSU (rin10 _ (List.mem_of_getElem? (i := 6) rfl)) (rin10 _ (List.mem_of_getElem? (i := 7) rfl)) (rin10 _ (List.mem_of_getElem? (i := 8) rfl)) (rin10 _ (List.mem_of_getElem? (i := 9) rfl)) (rin3 _ (List.mem_of_getElem? (i := 7) rfl)) (rin10 _ (List.mem_of_getElem? (i := 10) rfl))
theorem kdU_X8_due : yX8_due.name ≠ "<init>" ∧ (parseMethodDescriptor yX8_due.desc).map (fun d => d.parameters.length) = some 2 := ⟨by decide +kernel, by decide +kernel⟩
set_option maxHeartbeats 4000000 in
set_option maxRecDepth 100000 in
theorem c_X1_due {b q0 ci : Nat} {C0 : String} {T0 : u_T} {N0 : Nat} {fs0 : List Value} (hc0 : vwCl[ci]? = some (C0, T0, N0)) (he0 : (wF G a f q sp rg wd it)[q0]? = some (b, .inr (ci, fs0))) {x : Nat} (hq6 : q < 6) (hI : Inv f) : Ki G l yX1_due cX1_due 4 (some .int) (RM 3 44) [.ref b, .ref (a 0), .int (nI x)] (wF G a f q sp rg wd it) (fun u : Unit => wF G a f q sp rg wd it) (fun r _ => r = nI (if f 0 % 8 = 7 then 5 else if q % 2 = 1 then 11 else sp)) := by
  refine Ki.of (by decide) (Nat.le_of_ble_eq_true rfl) ?_
  intro p e s m args below meth c A Q ls hx hb S0 hG hA h hret hl
  have S0 : CF p m c cX1_due 4 s args RX1 := S0
  have hl : lv_has ls 4 [(0, .ref b), (1, .ref (a 0)), (2, .int (nI x))] := hl
  have h0 := hI.1
  refine lv_aload_n hx hb dX1_due_0 rfl (lv_at hl 1 rfl) ?_
  refine gF_RX1_minute S0 hG h dX1_due_1 ?_
  refine lv_bipush (v := nI 8) hx hb dX1_due_4 (by decide) ?_
  refine n_rem hx hb (by omega) (by decide) (by decide) dX1_due_6 ?_
  refine lv_bipush (v := nI 7) hx hb dX1_due_7 (by decide) ?_
  refine n_cne hx hb (by omega) (by omega) (tgt := 16) dX1_due_9 (by decide) (fun c9 => ?_) (fun c9 => ?_)
  ·
    refine lv_iconst (v := nI 0) hx hb dX1_due_16 (by decide) ?_
    refine lv_istore_n hx hb dX1_due_17 rfl hl (by decide) rfl (fun ls hl => ?_)
    refine lv_iload_n hx hb dX1_due_18 rfl (lv_at hl 0 rfl) ?_
    refine n_zeq hx hb (by decide) (tgt := 26) dX1_due_19 (by decide) (fun _ => ?_) (fun q => absurd q (by decide))
    refine lv_aload_n hx hb dX1_due_26 rfl (lv_at hl 1 rfl) ?_
    refine lv_aload_n hx hb dX1_due_27 rfl (lv_at hl 2 rfl) ?_
    refine lv_iload_n hx hb dX1_due_28 rfl (lv_at hl 3 rfl) ?_
    refine cSU_i0 S0 hG hA h hl.1 kw_RX1_15 kdU_X8_due (c_X8_due hc0 he0 (by omega)) ⟨rfl, rfl, by decide, by decide, Nat.le_refl _, Nat.le_refl _⟩ rfl ci q0 hc0 he0 rfl (Nat.le_of_ble_eq_true rfl) dX1_due_29 (fun _ => rfl) (fun r u H locs hq h => ?_)
    obtain rfl := hq
    exact hret _ () _ _ _ _ (nI_cong (by rw [if_neg c9])) h dX1_due_32
  ·
    refine lv_iconst (v := nI 1) hx hb dX1_due_12 (by decide) ?_
    refine lv_goto (tgt := 17) hx hb dX1_due_13 (by decide) ?_
    refine lv_istore_n hx hb dX1_due_17 rfl hl (by decide) rfl (fun ls hl => ?_)
    refine lv_iload_n hx hb dX1_due_18 rfl (lv_at hl 0 rfl) ?_
    refine n_zeq hx hb (by decide) (tgt := 26) dX1_due_19 (by decide) (fun q => absurd q (by decide)) (fun _ => ?_)
    refine lv_iconst (v := nI 5) hx hb dX1_due_22 (by decide) ?_
    refine lv_goto (tgt := 32) hx hb dX1_due_23 (by decide) ?_
    exact hret _ () _ _ _ _ (nI_cong (by rw [if_pos c9])) h dX1_due_32
theorem kw_RX1_19 : GoodIn wsL_law (va_wsSU RX1 19 yX8_walks (WS yX8_walks cX8_walks 4 (some .int))) := gSU (rin15 _ (List.mem_of_getElem? (i := 20) rfl)) (rin15 _ (List.mem_of_getElem? (i := 21) rfl)) (rin10 _ (List.mem_of_getElem? (i := 8) rfl)) (rin15 _ (List.mem_of_getElem? (i := 22) rfl)) (rin3 _ (List.mem_of_getElem? (i := 7) rfl)) (rin15 _ (List.mem_of_getElem? (i := 23) rfl))
theorem kdU_X8_walks : yX8_walks.name ≠ "<init>" ∧ (parseMethodDescriptor yX8_walks.desc).map (fun d => d.parameters.length) = some 3 := ⟨by decide +kernel, by decide +kernel⟩
set_option maxHeartbeats 4000000 in
set_option maxRecDepth 100000 in
theorem c_X1_walks {b q0 ci : Nat} {C0 : String} {T0 : u_T} {N0 : Nat} {fs0 : List Value} (hc0 : vwCl[ci]? = some (C0, T0, N0)) (he0 : (wF G a f q sp rg wd it)[q0]? = some (b, .inr (ci, fs0))) {x : Nat} (hx1 : x < 8) {y : Nat} : Ki G l yX1_walks cX1_walks 4 (some .int) (RM 2 23) [.ref b, .ref (a 0), .int (nI x), .int (nI y)] (wF G a f q sp rg wd it) (fun u : Unit => wF G a f q sp rg wd it) (fun r _ => r = nI (1 + its f x 2)) := by
  refine Ki.of (by decide) (Nat.le_of_ble_eq_true rfl) ?_
  intro p e s m args below meth c A Q ls hx hb S0 hG hA h hret hl
  have S0 : CF p m c cX1_walks 4 s args RX1 := S0
  have hl : lv_has ls 4 [(0, .ref b), (1, .ref (a 0)), (2, .int (nI x)), (3, .int (nI y))] := hl
  refine lv_aload_n hx hb dX1_walks_0 rfl (lv_at hl 0 rfl) ?_
  refine lv_aload_n hx hb dX1_walks_1 rfl (lv_at hl 1 rfl) ?_
  refine lv_iload_n hx hb dX1_walks_2 rfl (lv_at hl 2 rfl) ?_
  refine lv_iload_n hx hb dX1_walks_3 rfl (lv_at hl 3 rfl) ?_
  refine cSU_i0 S0 hG hA h hl.1 kw_RX1_19 kdU_X8_walks (c_X8_walks) ⟨rfl, rfl, by decide, by decide, Nat.le_refl _, Nat.le_refl _⟩ rfl ci q0 hc0 he0 rfl (Nat.le_of_ble_eq_true rfl) dX1_walks_4 (fun _ => rfl) (fun r u H locs hq h => ?_)
  obtain rfl := hq
  refine lv_aload_n hx hb dX1_walks_7 rfl (lv_at hl 1 rfl) ?_
  refine gF_RX1_quick S0 hG h dX1_walks_8 ?_
  refine lv_iload_n hx hb dX1_walks_11 rfl (lv_at hl 2 rfl) ?_
  refine rF_quick S0 hG h (by omega) dX1_walks_12 ?_
  refine n_add hx hb dX1_walks_13 ?_
  exact hret _ () _ _ _ _ rfl h dX1_walks_14
theorem kw_RX1_27 : GoodIn wsL_law (va_wsSU RX1 27 yX8_spoils (WS yX8_spoils cX8_spoils 1 (some .int))) := gSU (rin17 _ (List.mem_of_getElem? (i := 1) rfl)) (rin17 _ (List.mem_of_getElem? (i := 2) rfl)) (rin10 _ (List.mem_of_getElem? (i := 8) rfl)) (rin17 _ (List.mem_of_getElem? (i := 3) rfl)) (rin3 _ (List.mem_of_getElem? (i := 7) rfl)) (rin17 _ (List.mem_of_getElem? (i := 4) rfl))
theorem kdU_X8_spoils : yX8_spoils.name ≠ "<init>" ∧ (parseMethodDescriptor yX8_spoils.desc).map (fun d => d.parameters.length) = some 0 := ⟨by decide +kernel, by decide +kernel⟩
set_option maxHeartbeats 4000000 in
set_option maxRecDepth 100000 in
theorem c_X1_spoils {b q0 ci : Nat} {C0 : String} {T0 : u_T} {N0 : Nat} {fs0 : List Value} (hc0 : vwCl[ci]? = some (C0, T0, N0)) (he0 : (wF G a f q sp rg wd it)[q0]? = some (b, .inr (ci, fs0))) : Ki G l yX1_spoils cX1_spoils 1 (some .int) (RM 2 20) [.ref b] (wF G a f q sp rg wd it) (fun u : Unit => wF G a f q sp rg wd it) (fun r _ => r = nI 3) := by
  refine Ki.of (by decide) (Nat.le_of_ble_eq_true rfl) ?_
  intro p e s m args below meth c A Q ls hx hb S0 hG hA h hret hl
  have S0 : CF p m c cX1_spoils 1 s args RX1 := S0
  have hl : lv_has ls 1 [(0, .ref b)] := hl
  refine lv_aload_n hx hb dX1_spoils_0 rfl (lv_at hl 0 rfl) ?_
  refine cSU_i0 S0 hG hA h hl.1 kw_RX1_27 kdU_X8_spoils (c_X8_spoils) ⟨rfl, rfl, by decide, by decide, Nat.le_refl _, Nat.le_refl _⟩ rfl ci q0 hc0 he0 rfl (Nat.le_of_ble_eq_true rfl) dX1_spoils_1 (fun _ => rfl) (fun r u H locs hq h => ?_)
  obtain rfl := hq
  refine lv_iconst (v := nI 3) hx hb dX1_spoils_4 (by decide) ?_
  refine n_add hx hb dX1_spoils_5 ?_
  exact hret _ () _ _ _ _ rfl h dX1_spoils_6
theorem kw_RX6_7 : GoodIn wsL_law (va_wsSU RX6 7 yX2_due (WS yX2_due cX2_due 3 (some .int))) := gSU (rin11 _ (List.mem_of_getElem? (i := 6) rfl)) (rin11 _ (List.mem_of_getElem? (i := 7) rfl)) (rin11 _ (List.mem_of_getElem? (i := 8) rfl)) (rin10 _ (List.mem_of_getElem? (i := 16) rfl)) (rin3 _ (List.mem_of_getElem? (i := 3) rfl)) (rin10 _ (List.mem_of_getElem? (i := 17) rfl))
theorem kdU_X2_due : yX2_due.name ≠ "<init>" ∧ (parseMethodDescriptor yX2_due.desc).map (fun d => d.parameters.length) = some 2 := ⟨by decide +kernel, by decide +kernel⟩
set_option maxHeartbeats 4000000 in
set_option maxRecDepth 100000 in
theorem c_X6_due {b q0 ci : Nat} {C0 : String} {T0 : u_T} {N0 : Nat} {fs0 : List Value} (hc0 : vwCl[ci]? = some (C0, T0, N0)) (he0 : (wF G a f q sp rg wd it)[q0]? = some (b, .inr (ci, fs0))) {x : Nat} (hsp : sp ≤ 11) : Ki G l yX6_due cX6_due 3 (some .int) (RM 2 40) [.ref b, .ref (a 0), .int (nI x)] (wF G a f q sp rg wd it) (fun u : Unit => wF G a f q sp rg wd it) (fun r _ => r = nI (11 - sp - 1)) := by
  refine Ki.of (by decide) (Nat.le_of_ble_eq_true rfl) ?_
  intro p e s m args below meth c A Q ls hx hb S0 hG hA h hret hl
  have S0 : CF p m c cX6_due 3 s args RX6 := S0
  have hl : lv_has ls 3 [(0, .ref b), (1, .ref (a 0)), (2, .int (nI x))] := hl
  refine lv_iconst (v := nI 0) hx hb dX6_due_0 (by decide) ?_
  refine lv_aload_n hx hb dX6_due_1 rfl (lv_at hl 0 rfl) ?_
  refine lv_aload_n hx hb dX6_due_2 rfl (lv_at hl 1 rfl) ?_
  refine lv_iload_n hx hb dX6_due_3 rfl (lv_at hl 2 rfl) ?_
  refine cSU_i0 S0 hG hA h hl.1 kw_RX6_7 kdU_X2_due (c_X2_due (by omega)) ⟨rfl, rfl, by decide, by decide, Nat.le_refl _, Nat.le_refl _⟩ rfl ci q0 hc0 he0 rfl (Nat.le_of_ble_eq_true rfl) dX6_due_4 (fun _ => rfl) (fun r u H locs hq h => ?_)
  obtain rfl := hq
  refine lv_iconst (v := nI 1) hx hb dX6_due_7 (by decide) ?_
  refine lv_isub hx hb dX6_due_8 ?_
  refine va_mmax hx hb (S0.2.2.1.trans hl.1.symm) S0.2.2.2.1 (S0.2.2.2.2 _ (rin11 _ (List.mem_of_getElem? (i := 2) rfl))) (S0.2.2.2.2 _ (rin11 _ (List.mem_of_getElem? (i := 3) rfl))) (S0.2.2.2.2 _ (rin11 _ (List.mem_of_getElem? (i := 4) rfl))) (S0.2.2.2.2 _ (rin11 _ (List.mem_of_getElem? (i := 5) rfl))) (by decide) (Nat.le_of_ble_eq_true rfl) (Nat.le_refl _) (Nat.le_refl _) dX6_due_9 ?_
  refine tN (t := 11 - sp - 1) (max_nI _ (by omega)) ?_
  exact hret _ () _ _ _ _ rfl h dX6_due_12
set_option maxHeartbeats 4000000 in
set_option maxRecDepth 100000 in
theorem c_X6_hears {b q0 ci : Nat} {C0 : String} {T0 : u_T} {N0 : Nat} {fs0 : List Value} (hc0 : vwCl[ci]? = some (C0, T0, N0)) (he0 : (wF G a f q sp rg wd it)[q0]? = some (b, .inr (ci, fs0))) {x : Nat} (hx1 : x < 8) (hI : Inv f) : Ki G l yX6_hears cX6_hears 3 (some .boolean) (RM 2 22) [.ref b, .ref (a 0), .int (nI x)] (wF G a f q sp rg wd it) (fun u : Unit => wF G a f q sp rg wd it) (fun r _ => (r = nI 1 ∧ its f x 3 < 10 ∧ rg ≠ 2) ∨ (r = nI 0 ∧ ¬ (its f x 3 < 10 ∧ rg ≠ 2))) := by
  refine Ki.ofz (by decide) (Nat.le_of_ble_eq_true rfl) ?_
  intro p e s m args below meth c A Q ls hx hb S0 hG hA h hret hl
  have S0 : CF p m c cX6_hears 3 s args RX6 := S0
  have hl : lv_has ls 3 [(0, .ref b), (1, .ref (a 0)), (2, .int (nI x))] := hl
  refine lv_aload_n hx hb dX6_hears_0 rfl (lv_at hl 1 rfl) ?_
  refine gF_RX6_ringing S0 hG h dX6_hears_1 ?_
  refine lv_iconst (v := nI 2) hx hb dX6_hears_4 (by decide) ?_
  refine lv_icmp_eq hx hb (tgt := 21) dX6_hears_5 (by decide) (fun c5 => ?_) (fun c5 => ?_)
  ·
    rw [nI_2] at c5
    refine lv_iconst (v := nI 0) hx hb dX6_hears_21 (by decide) ?_
    exact hret _ () _ _ _ _ (by decide) (Or.inr ⟨rfl, fun z9 => z9.2 c5⟩) h dX6_hears_22
  ·
    rw [nI_2] at c5
    refine lv_aload_n hx hb dX6_hears_8 rfl (lv_at hl 0 rfl) ?_
    refine lv_aload_n hx hb dX6_hears_9 rfl (lv_at hl 1 rfl) ?_
    refine lv_iload_n hx hb dX6_hears_10 rfl (lv_at hl 2 rfl) ?_
    refine cSV_i0 (n := 2) S0 hG hA h hl.1 (x := ⟨"ComposedInterval$Enemy", "hears", "(LComposedInterval$Foyer;I)Z"⟩) (List.mem_of_getElem? (i := 66) rfl) (List.mem_of_getElem? (i := 67) rfl) rfl (rin11 _ (List.mem_of_getElem? (i := 8) rfl)) (rin16 _ (List.mem_of_getElem? (i := 8) rfl)) (rin9 _ (List.mem_of_getElem? (i := 12) rfl)) (rin2 _ (List.mem_of_getElem? (i := 23) rfl)) (rin9 _ (List.mem_of_getElem? (i := 10) rfl)) (by decide +kernel) (by decide +kernel) (c_X4_hears (by omega) hI) ⟨rfl, rfl, by decide, by decide, Nat.le_refl _, Nat.le_refl _⟩ rfl ci q0 hc0 he0 rfl (Nat.le_of_ble_eq_true rfl) dX6_hears_11 (fun _ => rfl) (fun r u H locs hq h => ?_)
    rcases hq with ⟨rfl, b11⟩ | ⟨rfl, b11⟩
    ·
      refine n_zeq hx hb (by decide) (tgt := 21) dX6_hears_14 (by decide) (fun q => absurd q (by decide)) (fun _ => ?_)
      refine lv_iconst (v := nI 1) hx hb dX6_hears_17 (by decide) ?_
      refine lv_goto (tgt := 22) hx hb dX6_hears_18 (by decide) ?_
      exact hret _ () _ _ _ _ (by decide) (Or.inl ⟨rfl, b11, c5⟩) h dX6_hears_22
    ·
      refine n_zeq hx hb (by decide) (tgt := 21) dX6_hears_14 (by decide) (fun _ => ?_) (fun q => absurd q (by decide))
      refine lv_iconst (v := nI 0) hx hb dX6_hears_21 (by decide) ?_
      exact hret _ () _ _ _ _ (by decide) (Or.inr ⟨rfl, fun z9 => by omega⟩) h dX6_hears_22
theorem kw_RX6_27 : GoodIn wsL_law (va_wsSU RX6 27 yX2_spoils (WS yX2_spoils cX2_spoils 1 (some .int))) := gSU (rin17 _ (List.mem_of_getElem? (i := 19) rfl)) (rin17 _ (List.mem_of_getElem? (i := 20) rfl)) (rin11 _ (List.mem_of_getElem? (i := 8) rfl)) (rin17 _ (List.mem_of_getElem? (i := 7) rfl)) (rin3 _ (List.mem_of_getElem? (i := 3) rfl)) (rin17 _ (List.mem_of_getElem? (i := 8) rfl))
theorem kdU_X2_spoils : yX2_spoils.name ≠ "<init>" ∧ (parseMethodDescriptor yX2_spoils.desc).map (fun d => d.parameters.length) = some 0 := ⟨by decide +kernel, by decide +kernel⟩
set_option maxHeartbeats 4000000 in
set_option maxRecDepth 100000 in
theorem c_X6_spoils {b q0 ci : Nat} {C0 : String} {T0 : u_T} {N0 : Nat} {fs0 : List Value} (hc0 : vwCl[ci]? = some (C0, T0, N0)) (he0 : (wF G a f q sp rg wd it)[q0]? = some (b, .inr (ci, fs0))) : Ki G l yX6_spoils cX6_spoils 1 (some .int) (RM 3 40) [.ref b] (wF G a f q sp rg wd it) (fun u : Unit => wF G a f q sp rg wd it) (fun r _ => r = nI 4) := by
  refine Ki.of (by decide) (Nat.le_of_ble_eq_true rfl) ?_
  intro p e s m args below meth c A Q ls hx hb S0 hG hA h hret hl
  have S0 : CF p m c cX6_spoils 1 s args RX6 := S0
  have hl : lv_has ls 1 [(0, .ref b)] := hl
  refine lv_iconst (v := nI 2) hx hb dX6_spoils_0 (by decide) ?_
  refine lv_aload_n hx hb dX6_spoils_1 rfl (lv_at hl 0 rfl) ?_
  refine cSU_i0 S0 hG hA h hl.1 kw_RX6_27 kdU_X2_spoils (c_X2_spoils hc0 he0 ) ⟨rfl, rfl, by decide, by decide, Nat.le_refl _, Nat.le_refl _⟩ rfl ci q0 hc0 he0 rfl (Nat.le_of_ble_eq_true rfl) dX6_spoils_2 (fun _ => rfl) (fun r u H locs hq h => ?_)
  obtain rfl := hq
  refine n_mul hx hb dX6_spoils_5 ?_
  exact hret _ () _ _ _ _ rfl h dX6_spoils_6
