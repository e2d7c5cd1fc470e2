variable {G : GT} {l : Launch} {o : Nat → Nat} {f st tb : Row} {tn : Nat} {nu : Nat → Int64} {bi si : Row} {kp : Nat} {g : Row} {D : DT}
theorem kdS_X3_become : yX3_become.cls ≠ "java/lang/invoke/MethodHandle" ∧ yX3_become.cls ≠ "java/lang/invoke/VarHandle" ∧ (parseMethodDescriptor yX3_become.desc).map (fun d => d.parameters.length) = some 1 := ⟨by decide +kernel, by decide +kernel, by decide +kernel⟩
set_option maxHeartbeats 4000000 in
set_option maxRecDepth 100000 in
theorem c_X10_harmony {x : Int32} (hI : Inv f) (h0 : f 0 ≤ 99999) : Ki G l yX10_harmony cX10_harmony 2 (some .int) (RM 7 135) [.ref (o 0), .int x] (wC G o f st tb tn nu bi si kp g D) (fun u : Row × DT => wC G o f u.1 tb tn nu bi si kp g u.2) (fun r u => P_harmony f st x r u.1) := by
  refine Ki.of (by decide) (Nat.le_of_ble_eq_true rfl) ?_
  intro p e s m args below meth c A Q ls hx hb S0 hG hA h hret hl
  have S0 : CF p m c cX10_harmony 2 s args RX10 := S0
  have hl : lv_has ls 2 [(0, .ref (o 0)), (1, .int x)] := hl
  refine lv_iload_n hx hb dX10_harmony_0 rfl (lv_at hl 1 rfl) ?_
  refine lv_iconst (v := nI 0) hx hb dX10_harmony_1 (by decide) ?_
  refine lv_sipush (v := nI 300) hx hb dX10_harmony_2 (by decide) ?_
  refine cS_iE S0 hG hA h hl.1 kw_RX10_49 kdS_X10_isOutside (c_X10_isOutside) ⟨rfl, rfl, by decide, by decide, Nat.le_refl _, Nat.le_refl _⟩ rfl rfl (Nat.le_of_ble_eq_true rfl) dX10_harmony_5 (fun r u H locs hq h => ?_)
  have hq : (r = nI 1 ∧ ¬ inR x 0 300) ∨ (r = nI 0 ∧ inR x 0 300) := hq
  rcases hq with ⟨rfl, b5⟩ | ⟨rfl, b5⟩
  ·
    refine n_zeq hx hb (by decide) (tgt := 18) dX10_harmony_8 (by decide) (fun q => absurd q (by decide)) (fun _ => ?_)
    refine lv_aload_n hx hb dX10_harmony_11 rfl (lv_at hl 0 rfl) ?_
    refine lv_ldc (v := -1000000001) hx hb S0.2.2.2.1 (S0.2.2.2.2 _ (rin6 _ (List.mem_of_getElem? (i := 6) rfl))) dX10_harmony_12 ?_
    refine cV_i0 S0 hG hA h hl.1 kw_RX10_58 kdV_X10_tell (c_X10_tell (k := 0) (by decide) (by decide)) ⟨rfl, rfl, by decide, by decide, Nat.le_refl _, Nat.le_refl _⟩ rfl 10 0 rfl rfl rfl (Nat.le_of_ble_eq_true rfl) dX10_harmony_14 (fun _ => rfl) (fun r u H locs hq h => ?_)
    obtain rfl := hq
    exact hret _ (bump st 0, D) _ _ _ _ (Or.inr ⟨b5, rfl, rfl⟩) h dX10_harmony_17
  ·
    obtain ⟨j, rfl, j1, j2⟩ := inR_nat b5
    refine n_zeq hx hb (by decide) (tgt := 18) dX10_harmony_8 (by decide) (fun _ => ?_) (fun q => absurd q (by decide))
    refine lv_aload_n hx hb dX10_harmony_18 rfl (lv_at hl 0 rfl) ?_
    refine gC_trial S0 hG h dX10_harmony_19 ?_
    refine lv_aload_n hx hb dX10_harmony_22 rfl (lv_at hl 0 rfl) ?_
    refine gC_present S0 hG h dX10_harmony_23 ?_
    refine cN_vC (w2 := fun u => wC G o f st tb tn nu bi si kp g (D.1, (f, D.2.1.2), D.2.2)) S0 hG hA h hl.1 (ws_ok (rin22 _ (List.mem_of_getElem? (i := 18) rfl))) (rin2 _ (List.mem_of_getElem? (i := 3) rfl)) (rin22 _ (List.mem_of_getElem? (i := 16) rfl)) (rin22 _ (List.mem_of_getElem? (i := 17) rfl)) (host := "ComposedInterval") (List.mem_of_getElem? (i := 55) rfl) kdS_X3_become (c_X3_become (a := aT o) (b := aP o) (f := D.2.1.1) (q := D.2.1.2.1) (sp := D.2.1.2.2.1) (rg := D.2.1.2.2.2.1) (wd := D.2.1.2.2.2.2.1) (it := D.2.1.2.2.2.2.2) (f2 := f) (q2 := D.1.1) (sp2 := D.1.2.1) (rg2 := D.1.2.2.1) (wd2 := D.1.2.2.2.1) (it2 := D.1.2.2.2.2)) ⟨rfl, rfl, by decide, by decide, Nat.le_refl _, Nat.le_refl _⟩ rfl 3 17 rfl rfl [17, 18, 19, 20, 21, 22, 23, 24, 25, 1, 2, 3, 4, 5, 6, 7, 8, 9] (by decide) rfl rfl rfl (Nat.le_of_ble_eq_true rfl) dX10_harmony_26 (fun _ H1 hk hP1 => WX.back h [17, 18, 19, 20, 21, 22, 23, 24, 25, 1, 2, 3, 4, 5, 6, 7, 8, 9] rfl hk hP1 (fit_TP (D := D))) (fun _ => rfl) (fun u H locs hq h => ?_)
    refine lv_aload_n hx hb dX10_harmony_29 rfl (lv_at hl 0 rfl) ?_
    refine gC_trial S0 hG h dX10_harmony_30 ?_
    refine lv_iload_n hx hb dX10_harmony_33 rfl (lv_at hl 1 rfl) ?_
    refine cN_vC (w2 := fun u => wC G o f st tb tn nu bi si kp g (D.1, (goF f j, u), D.2.2)) S0 hG hA h hl.1 (ws_ok (rin20 _ (List.mem_of_getElem? (i := 20) rfl))) (rin2 _ (List.mem_of_getElem? (i := 3) rfl)) (rin20 _ (List.mem_of_getElem? (i := 18) rfl)) (rin20 _ (List.mem_of_getElem? (i := 19) rfl)) (host := "ComposedInterval") (List.mem_of_getElem? (i := 54) rfl) kdS_X3_go (c_X3_go (a := aT o) (f := f) (q := D.2.1.2.1) (sp := D.2.1.2.2.1) (rg := D.2.1.2.2.2.1) (wd := D.2.1.2.2.2.2.1) (it := D.2.1.2.2.2.2.2) hI (by omega)) ⟨rfl, rfl, by decide, by decide, Nat.le_refl _, Nat.le_refl _⟩ rfl 3 17 rfl rfl [17, 18, 19, 20, 21, 22, 23, 24, 25, 10, 11, 12, 13, 14, 15, 16] (by decide) rfl rfl rfl (Nat.le_of_ble_eq_true rfl) dX10_harmony_34 (fun _ H1 hk hP1 => WX.back h [17, 18, 19, 20, 21, 22, 23, 24, 25, 10, 11, 12, 13, 14, 15, 16] rfl hk hP1 (fit_T (D := (D.1, (f, D.2.1.2), D.2.2)))) (fun _ => rfl) (fun u H locs hq h => ?_)
    obtain ⟨jg, rfl⟩ : ∃ z9, z9 = u := ⟨u, rfl⟩
    refine lv_aload_n hx hb dX10_harmony_37 rfl (lv_at hl 0 rfl) ?_
    refine gC_trial S0 hG h dX10_harmony_38 ?_
    refine cN_iC (w2 := fun u => wC G o f st tb tn nu bi si kp g (D.1, ((goF f j), jg), D.2.2)) S0 hG hA h hl.1 (ws_ok (rin11 _ (List.mem_of_getElem? (i := 12) rfl))) (rin2 _ (List.mem_of_getElem? (i := 3) rfl)) (rin11 _ (List.mem_of_getElem? (i := 10) rfl)) (rin11 _ (List.mem_of_getElem? (i := 11) rfl)) (host := "ComposedInterval") (List.mem_of_getElem? (i := 47) rfl) kdS_X3_sumHarmony (c_X3_sumHarmony (a := aT o) (f := (goF f j)) (q := jg.1) (sp := jg.2.1) (rg := jg.2.2.1) (wd := jg.2.2.2.1) (it := jg.2.2.2.2) (goF_inv hI j (by omega))) ⟨rfl, rfl, by decide, by decide, Nat.le_refl _, Nat.le_refl _⟩ rfl 3 17 rfl rfl [17, 18, 19, 20, 21, 22, 23, 24, 25, 10, 11, 12, 13, 14, 15, 16] (by decide) rfl rfl rfl (Nat.le_of_ble_eq_true rfl) dX10_harmony_41 (fun _ H1 hk hP1 => WX.back h [17, 18, 19, 20, 21, 22, 23, 24, 25, 10, 11, 12, 13, 14, 15, 16] rfl hk hP1 (fit_same rfl)) (fun _ => rfl) (fun r u H locs hq h => ?_)
    obtain rfl := hq
    exact hret _ (st, (D.1, (goF f j, jg), D.2.2)) _ _ _ _ (Or.inl ⟨b5, by rw [nt_nI j2], rfl⟩) h dX10_harmony_44
