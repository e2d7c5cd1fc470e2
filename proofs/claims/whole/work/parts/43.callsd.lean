variable {G : GT} {l : Launch} {o : Nat → Nat} {f st tb : Row} {tn : Nat} {nu : Nat → Int64} {bi si : Row} {kp : Nat} {g : Row} {D : DT}
set_option maxHeartbeats 4000000 in
set_option maxRecDepth 100000 in
theorem c_X10_image  : Ki G l yX10_image cX10_image 1 (some .int) (RM 3 61) [.ref (o 0)] (wC G o f st tb tn nu bi si kp g D) (fun u : Unit => wC G o f st tb tn nu bi si 1 f D) (fun r _ => r = nI 1) := by
  refine Ki.of (by decide) (Nat.le_of_ble_eq_true rfl) ?_
  intro p e s m args below meth c A Q ls hx hb S0 hG hA h hret hl
  have S0 : CF p m c cX10_image 1 s args RX10 := S0
  have hl : lv_has ls 1 [(0, .ref (o 0))] := hl
  refine lv_aload_n hx hb dX10_image_0 rfl (lv_at hl 0 rfl) ?_
  refine gC_kept S0 hG h dX10_image_1 ?_
  refine lv_aload_n hx hb dX10_image_4 rfl (lv_at hl 0 rfl) ?_
  refine gC_present S0 hG h dX10_image_5 ?_
  refine cN_vC (w2 := fun u => wC G o f st tb tn nu bi si kp f D) S0 hG hA h hl.1 (ws_ok (rin22 _ (List.mem_of_getElem? (i := 18) rfl))) (rin2 _ (List.mem_of_getElem? (i := 3) rfl)) (rin22 _ (List.mem_of_getElem? (i := 16) rfl)) (rin22 _ (List.mem_of_getElem? (i := 17) rfl)) (host := "ComposedInterval") (List.mem_of_getElem? (i := 55) rfl) kdS_X3_become (c_X3_become (a := aK o) (b := aP o) (f := g) (q := D.2.2.1.1) (sp := D.2.2.1.2.1) (rg := D.2.2.1.2.2.1) (wd := D.2.2.1.2.2.2.1) (it := D.2.2.1.2.2.2.2) (f2 := f) (q2 := D.1.1) (sp2 := D.1.2.1) (rg2 := D.1.2.2.1) (wd2 := D.1.2.2.2.1) (it2 := D.1.2.2.2.2)) ⟨rfl, rfl, by decide, by decide, Nat.le_refl _, Nat.le_refl _⟩ rfl 3 26 rfl rfl [26, 27, 28, 29, 30, 31, 32, 33, 34, 1, 2, 3, 4, 5, 6, 7, 8, 9] (by decide) rfl rfl rfl (Nat.le_of_ble_eq_true rfl) dX10_image_8 (fun _ H1 hk hP1 => WX.back h [26, 27, 28, 29, 30, 31, 32, 33, 34, 1, 2, 3, 4, 5, 6, 7, 8, 9] rfl hk hP1 (fit_KP)) (fun _ => rfl) (fun u H locs hq h => ?_)
  refine lv_aload_n hx hb dX10_image_11 rfl (lv_at hl 0 rfl) ?_
  refine lv_iconst (v := nI 1) hx hb dX10_image_12 (by decide) ?_
  refine pC_isKept1 S0 hG h dX10_image_13 (fun H locs h => ?_)
  refine lv_iconst (v := nI 1) hx hb dX10_image_16 (by decide) ?_
  exact hret _ () _ _ _ _ rfl h dX10_image_17
