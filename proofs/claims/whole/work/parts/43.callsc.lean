variable {G : GT} {l : Launch} {o : Nat → Nat} {f st tb : Row} {tn : Nat} {nu : Nat → Int64} {bi si : Row} {kp : Nat} {g : Row} {D : DT}
theorem kdS_X9_perform : yX9_perform.cls ≠ "java/lang/invoke/MethodHandle" ∧ yX9_perform.cls ≠ "java/lang/invoke/VarHandle" ∧ (parseMethodDescriptor yX9_perform.desc).map (fun d => d.parameters.length) = some 1 := ⟨by decide +kernel, by decide +kernel, by decide +kernel⟩
set_option maxHeartbeats 4000000 in
set_option maxRecDepth 100000 in
theorem c_X10_interval (hT : ∀ i, tb i < 256) (htn : tn ≤ 120) (hI : Inv f) : Ki G l yX10_interval cX10_interval 2 (some .int) (RM 10 196) [.ref (o 0)] (wC G o f st tb tn nu bi si kp g D) (fun u : Row × DT => wC G o u.1 st tb 0 nu bi si kp g u.2) (fun r u => P_interval f tb tn r u.1 ∧ Inv u.1 ∧ u.1 0 = f 0) := by
  refine Ki.of (by decide) (Nat.le_of_ble_eq_true rfl) ?_
  intro p e s m args below meth c A Q ls hx hb S0 hG hA h hret hl
  have S0 : CF p m c cX10_interval 2 s args RX10 := S0
  have hl : lv_has ls 2 [(0, .ref (o 0))] := hl
  refine lv_aload_n hx hb dX10_interval_0 rfl (lv_at hl 0 rfl) ?_
  refine gC_trial S0 hG h dX10_interval_1 ?_
  refine lv_aload_n hx hb dX10_interval_4 rfl (lv_at hl 0 rfl) ?_
  refine gC_present S0 hG h dX10_interval_5 ?_
  refine cN_vC (w2 := fun u => wC G o f st tb tn nu bi si kp g (D.1, (f, D.2.1.2), D.2.2)) S0 hG hA h hl.1 (ws_ok (rin22 _ (List.mem_of_getElem? (i := 18) rfl))) (rin2 _ (List.mem_of_getElem? (i := 3) rfl)) (rin22 _ (List.mem_of_getElem? (i := 16) rfl)) (rin22 _ (List.mem_of_getElem? (i := 17) rfl)) (host := "ComposedInterval") (List.mem_of_getElem? (i := 55) rfl) kdS_X3_become (c_X3_become (a := aT o) (b := aP o) (f := D.2.1.1) (q := D.2.1.2.1) (sp := D.2.1.2.2.1) (rg := D.2.1.2.2.2.1) (wd := D.2.1.2.2.2.2.1) (it := D.2.1.2.2.2.2.2) (f2 := f) (q2 := D.1.1) (sp2 := D.1.2.1) (rg2 := D.1.2.2.1) (wd2 := D.1.2.2.2.1) (it2 := D.1.2.2.2.2)) ⟨rfl, rfl, by decide, by decide, Nat.le_refl _, Nat.le_refl _⟩ rfl 3 17 rfl rfl [17, 18, 19, 20, 21, 22, 23, 24, 25, 1, 2, 3, 4, 5, 6, 7, 8, 9] (by decide) rfl rfl rfl (Nat.le_of_ble_eq_true rfl) dX10_interval_8 (fun _ H1 hk hP1 => WX.back h [17, 18, 19, 20, 21, 22, 23, 24, 25, 1, 2, 3, 4, 5, 6, 7, 8, 9] rfl hk hP1 (fit_TP (D := D))) (fun _ => rfl) (fun u H locs hq h => ?_)
  refine lv_aload_n hx hb dX10_interval_11 rfl (lv_at hl 0 rfl) ?_
  refine gC_tape S0 hG h dX10_interval_12 ?_
  refine lv_aload_n hx hb dX10_interval_15 rfl (lv_at hl 0 rfl) ?_
  refine gC_trial S0 hG h dX10_interval_16 ?_
  refine cN_iC (w2 := fun u => wC G o f st tb tn nu bi si kp g (D.1, (u.1, D.2.1.2), D.2.2.1, (tkK tb tn u.2, u.2, tkE tb tn u.2, tkV tb tn u.2))) S0 hG hA h hl.1 (ws_ok (rin29 _ (List.mem_of_getElem? (i := 1) rfl))) (rin1 _ (List.mem_of_getElem? (i := 15) rfl)) (rin28 _ (List.mem_of_getElem? (i := 23) rfl)) (rin29 _ (List.mem_of_getElem? (i := 0) rfl)) (host := "ComposedInterval") (List.mem_of_getElem? (i := 58) rfl) kdS_X9_perform (c_X9_perform (t := aTp o) (a := aT o) (tb := tb) (tn := tn) (tk := D.2.2.2.1) (ts := D.2.2.2.2.1) (tx := D.2.2.2.2.2.1) (tv := D.2.2.2.2.2.2) (f := f) (q := D.2.1.2.1) (sp := D.2.1.2.2.1) (rg := D.2.1.2.2.2.1) (wd := D.2.1.2.2.2.2.1) (it := D.2.1.2.2.2.2.2) hT htn hI) ⟨rfl, rfl, by decide, by decide, Nat.le_refl _, Nat.le_refl _⟩ rfl 9 35 rfl rfl [35, 36, 17, 18, 19, 20, 21, 22, 23, 24, 25, 10, 11, 12, 13, 14, 15, 16] (by decide) rfl rfl rfl (Nat.le_of_ble_eq_true rfl) dX10_interval_19 (fun _ H1 hk hP1 => WX.back h [35, 36, 17, 18, 19, 20, 21, 22, 23, 24, 25, 10, 11, 12, 13, 14, 15, 16] rfl hk hP1 (fit_Tp (D := (D.1, (f, D.2.1.2), D.2.2)))) (fun _ => rfl) (fun r u H locs hq h => ?_)
  obtain ⟨u9, rfl⟩ : ∃ z9, z9 = u := ⟨u, rfl⟩
  rcases hq with ⟨i9, i1, i2, rfl, hpi, hJ, hK⟩ | ⟨i9, i2, rfl, hpi⟩
  ·
    refine lv_istore_n hx hb dX10_interval_22 rfl hl (by decide) rfl (fun ls hl => ?_)
    refine lv_iload_n hx hb dX10_interval_23 rfl (lv_at hl 0 rfl) ?_
    refine n_zlt hx hb (by omega) (tgt := 38) dX10_interval_24 (by decide) ?_
    refine lv_aload_n hx hb dX10_interval_27 rfl (lv_at hl 1 rfl) ?_
    refine gC_present S0 hG h dX10_interval_28 ?_
    refine lv_aload_n hx hb dX10_interval_31 rfl (lv_at hl 1 rfl) ?_
    refine gC_trial S0 hG h dX10_interval_32 ?_
    refine cN_vC (w2 := fun u => wC G o u9.1 st tb tn nu bi si kp g (D.1, (u9.1, D.2.1.2), D.2.2.1, (tkK tb tn u9.2, u9.2, tkE tb tn u9.2, tkV tb tn u9.2))) S0 hG hA h hl.1 (ws_ok (rin22 _ (List.mem_of_getElem? (i := 18) rfl))) (rin2 _ (List.mem_of_getElem? (i := 3) rfl)) (rin22 _ (List.mem_of_getElem? (i := 16) rfl)) (rin22 _ (List.mem_of_getElem? (i := 17) rfl)) (host := "ComposedInterval") (List.mem_of_getElem? (i := 55) rfl) kdS_X3_become (c_X3_become (a := aP o) (b := aT o) (f := f) (q := D.1.1) (sp := D.1.2.1) (rg := D.1.2.2.1) (wd := D.1.2.2.2.1) (it := D.1.2.2.2.2) (f2 := u9.1) (q2 := D.2.1.2.1) (sp2 := D.2.1.2.2.1) (rg2 := D.2.1.2.2.2.1) (wd2 := D.2.1.2.2.2.2.1) (it2 := D.2.1.2.2.2.2.2)) ⟨rfl, rfl, by decide, by decide, Nat.le_refl _, Nat.le_refl _⟩ rfl 3 1 rfl rfl [1, 2, 3, 4, 5, 6, 7, 8, 9, 17, 18, 19, 20, 21, 22, 23, 24, 25] (by decide) rfl rfl rfl (Nat.le_of_ble_eq_true rfl) dX10_interval_35 (fun _ H1 hk hP1 => WX.back h [1, 2, 3, 4, 5, 6, 7, 8, 9, 17, 18, 19, 20, 21, 22, 23, 24, 25] rfl hk hP1 (fit_PT (D := (D.1, (u9.1, D.2.1.2), D.2.2.1, (tkK tb tn u9.2, u9.2, tkE tb tn u9.2, tkV tb tn u9.2))))) (fun _ => rfl) (fun u H locs hq h => ?_)
    refine lv_aload_n hx hb dX10_interval_38 rfl (lv_at hl 1 rfl) ?_
    refine gC_tape S0 hG h dX10_interval_39 ?_
    refine lv_iconst (v := nI 0) hx hb dX10_interval_42 (by decide) ?_
    refine pC_length S0 hG h dX10_interval_43 (fun H locs h => ?_)
    refine lv_iload_n hx hb dX10_interval_46 rfl (lv_at hl 0 rfl) ?_
    exact hret _ (u9.1, (D.1, (u9.1, D.2.1.2), D.2.2.1, (tkK tb tn u9.2, u9.2, tkE tb tn u9.2, tkV tb tn u9.2))) _ _ _ _ ⟨hpi, hJ, hK⟩ h dX10_interval_47
  ·
    refine lv_istore_n hx hb dX10_interval_22 rfl hl (by decide) rfl (fun ls hl => ?_)
    refine lv_iload_n hx hb dX10_interval_23 rfl (lv_at hl 0 rfl) ?_
    refine lv_if_lt hx hb (tgt := 38) dX10_interval_24 (by decide) (fun c24 => ?_) (fun c24 => absurd (m1_lt i9 (by omega)) c24)
    refine lv_aload_n hx hb dX10_interval_38 rfl (lv_at hl 1 rfl) ?_
    refine gC_tape S0 hG h dX10_interval_39 ?_
    refine lv_iconst (v := nI 0) hx hb dX10_interval_42 (by decide) ?_
    refine pC_length S0 hG h dX10_interval_43 (fun H locs h => ?_)
    refine lv_iload_n hx hb dX10_interval_46 rfl (lv_at hl 0 rfl) ?_
    exact hret _ (f, (D.1, (u9.1, D.2.1.2), D.2.2.1, (tkK tb tn u9.2, u9.2, tkE tb tn u9.2, tkV tb tn u9.2))) _ _ _ _ ⟨hpi, hI, rfl⟩ h dX10_interval_47
