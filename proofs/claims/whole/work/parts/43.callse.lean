variable {G : GT} {l : Launch} {o : Nat → Nat} {f st tb : Row} {tn : Nat} {nu : Nat → Int64} {bi si : Row} {kp : Nat} {g : Row} {D : DT}
set_option maxHeartbeats 4000000 in
set_option maxRecDepth 100000 in
theorem c_X10_undo (hk : kp ≤ 1) : Ki G l yX10_undo cX10_undo 1 (some .int) (RM 3 61) [.ref (o 0)] (wC G o f st tb tn nu bi si kp g D) (fun u : Row × Row => wC G o u.1 u.2 tb tn nu bi si kp g D) (fun r u => P_undo f g kp st r u.1 u.2) := by
  refine Ki.of (by decide) (Nat.le_of_ble_eq_true rfl) ?_
  intro p e s m args below meth c A Q ls hx hb S0 hG hA h hret hl
  have S0 : CF p m c cX10_undo 1 s args RX10 := S0
  have hl : lv_has ls 1 [(0, .ref (o 0))] := hl
  refine lv_aload_n hx hb dX10_undo_0 rfl (lv_at hl 0 rfl) ?_
  refine gC_isKept S0 hG h dX10_undo_1 ?_
  refine n_zne hx hb (by omega) (tgt := 14) dX10_undo_4 (by decide) (fun c4 => ?_) (fun c4 => ?_)
  ·
    refine lv_aload_n hx hb dX10_undo_14 rfl (lv_at hl 0 rfl) ?_
    refine gC_present S0 hG h dX10_undo_15 ?_
    refine lv_aload_n hx hb dX10_undo_18 rfl (lv_at hl 0 rfl) ?_
    refine gC_kept S0 hG h dX10_undo_19 ?_
    refine cN_vC (w2 := fun u => wC G o g st tb tn nu bi si kp g D) S0 hG hA h hl.1 (ws_ok (rin22 _ (List.mem_of_getElem? (i := 18) rfl))) (rin2 _ (List.mem_of_getElem? (i := 3) rfl)) (rin22 _ (List.mem_of_getElem? (i := 16) rfl)) (rin22 _ (List.mem_of_getElem? (i := 17) rfl)) (host := "ComposedInterval") (List.mem_of_getElem? (i := 55) rfl) kdS_X3_become (c_X3_become (a := aP o) (b := aK o) (f := f) (q := D.1.1) (sp := D.1.2.1) (rg := D.1.2.2.1) (wd := D.1.2.2.2.1) (it := D.1.2.2.2.2) (f2 := g) (q2 := D.2.2.1.1) (sp2 := D.2.2.1.2.1) (rg2 := D.2.2.1.2.2.1) (wd2 := D.2.2.1.2.2.2.1) (it2 := D.2.2.1.2.2.2.2)) ⟨rfl, rfl, by decide, by decide, Nat.le_refl _, Nat.le_refl _⟩ rfl 3 1 rfl rfl [1, 2, 3, 4, 5, 6, 7, 8, 9, 26, 27, 28, 29, 30, 31, 32, 33, 34] (by decide) rfl rfl rfl (Nat.le_of_ble_eq_true rfl) dX10_undo_22 (fun _ H1 hk hP1 => WX.back h [1, 2, 3, 4, 5, 6, 7, 8, 9, 26, 27, 28, 29, 30, 31, 32, 33, 34] rfl hk hP1 (fit_PK)) (fun _ => rfl) (fun u H locs hq h => ?_)
    refine lv_aload_n hx hb dX10_undo_25 rfl (lv_at hl 0 rfl) ?_
    refine gC_present S0 hG h dX10_undo_26 ?_
    refine kPg_people S0 hG h dX10_undo_29 ?_
    exact hret _ (g, st) _ _ _ _ (Or.inr ⟨by omega, rfl, rfl, rfl⟩) h dX10_undo_32
  ·
    refine lv_aload_n hx hb dX10_undo_7 rfl (lv_at hl 0 rfl) ?_
    refine lv_ldc (v := -1000000004) hx hb S0.2.2.2.1 (S0.2.2.2.2 _ (rin24 _ (List.mem_of_getElem? (i := 7) rfl))) dX10_undo_8 ?_
    refine cV_i0 S0 hG hA h hl.1 kw_RX10_58 kdV_X10_tell (c_X10_tell (k := 3) (by decide) (by decide)) ⟨rfl, rfl, by decide, by decide, Nat.le_refl _, Nat.le_refl _⟩ rfl 10 0 rfl rfl rfl (Nat.le_of_ble_eq_true rfl) dX10_undo_10 (fun _ => rfl) (fun r u H locs hq h => ?_)
    obtain rfl := hq
    exact hret _ (f, bump st 3) _ _ _ _ (Or.inl ⟨c4, rfl, rfl, rfl⟩) h dX10_undo_13
