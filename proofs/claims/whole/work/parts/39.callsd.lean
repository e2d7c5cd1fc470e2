variable {G : GT} {l : Launch} {o : Nat → Nat} {f st tb : Row} {tn : Nat} {nu : Nat → Int64} {bi si : Row} {kp : Nat} {g : Row} {D : DT}
theorem kdS_X3_look : yX3_look.cls ≠ "java/lang/invoke/MethodHandle" ∧ yX3_look.cls ≠ "java/lang/invoke/VarHandle" ∧ (parseMethodDescriptor yX3_look.desc).map (fun d => d.parameters.length) = some 0 := ⟨by decide +kernel, by decide +kernel, by decide +kernel⟩
theorem kdS_X3_whoIsDueHere : yX3_whoIsDueHere.cls ≠ "java/lang/invoke/MethodHandle" ∧ yX3_whoIsDueHere.cls ≠ "java/lang/invoke/VarHandle" ∧ (parseMethodDescriptor yX3_whoIsDueHere.desc).map (fun d => d.parameters.length) = some 0 := ⟨by decide +kernel, by decide +kernel, by decide +kernel⟩
theorem kdS_X3_sumHarmony : yX3_sumHarmony.cls ≠ "java/lang/invoke/MethodHandle" ∧ yX3_sumHarmony.cls ≠ "java/lang/invoke/VarHandle" ∧ (parseMethodDescriptor yX3_sumHarmony.desc).map (fun d => d.parameters.length) = some 0 := ⟨by decide +kernel, by decide +kernel, by decide +kernel⟩
set_option maxHeartbeats 4000000 in
set_option maxRecDepth 100000 in
theorem c_X10_now {x : Int32} (hI : Inv f) : Ki G l yX10_now cX10_now 2 (some .int) (RM 6 111) [.ref (o 0), .int x] (wC G o f st tb tn nu bi si kp g D) (fun u : Row × DT => wC G o f u.1 tb tn nu bi si kp g u.2) (fun r u => P_now f st x r u.1) := by
  refine Ki.of (by decide) (Nat.le_of_ble_eq_true rfl) ?_
  intro p e s m args below meth c A Q ls hx hb S0 hG hA h hret hl
  have S0 : CF p m c cX10_now 2 s args RX10 := S0
  have hl : lv_has ls 2 [(0, .ref (o 0)), (1, .int x)] := hl
  refine lv_aload_n hx hb dX10_now_0 rfl (lv_at hl 0 rfl) ?_
  refine gC_present S0 hG h dX10_now_1 ?_
  refine cN_vC (w2 := fun u => wC G o f st tb tn nu bi si kp g ((qtr f, sc f (qtr f), ring f, D.1.2.2.2.1, D.1.2.2.2.2), D.2)) S0 hG hA h hl.1 (ws_ok (rin8 _ (List.mem_of_getElem? (i := 13) rfl))) (rin2 _ (List.mem_of_getElem? (i := 3) rfl)) (rin8 _ (List.mem_of_getElem? (i := 11) rfl)) (rin8 _ (List.mem_of_getElem? (i := 12) rfl)) (host := "ComposedInterval") (List.mem_of_getElem? (i := 44) rfl) kdS_X3_look (c_X3_look (a := aP o) (f := f) (q := D.1.1) (sp := D.1.2.1) (rg := D.1.2.2.1) (wd := D.1.2.2.2.1) (it := D.1.2.2.2.2) hI) ⟨rfl, rfl, by decide, by decide, Nat.le_refl _, Nat.le_refl _⟩ rfl 3 1 rfl rfl [1, 2, 3, 4, 5, 6, 7, 8, 9, 10, 11, 12, 13, 14, 15, 16] (by decide) rfl rfl rfl (Nat.le_of_ble_eq_true rfl) dX10_now_4 (fun _ H1 hk hP1 => WX.back h [1, 2, 3, 4, 5, 6, 7, 8, 9, 10, 11, 12, 13, 14, 15, 16] rfl hk hP1 fit_P) (fun _ => rfl) (fun u H locs hq h => ?_)
  refine lv_iload_n hx hb dX10_now_7 rfl (lv_at hl 1 rfl) ?_
  rcases (show x.toInt = 0 ∨ x.toInt = 1 ∨ x.toInt = 2 ∨ x.toInt = 3 ∨ x.toInt = 4 ∨ x.toInt = 5 ∨ (x.toInt < 0 ∨ 5 < x.toInt) by omega) with e8 | e8 | e8 | e8 | e8 | e8 | e8
  ·
    refine i_swIn hx hb e8 (off := 40) (tgt := 48) dX10_now_8 (by decide) (by decide) rfl (by decide) ?_
    refine lv_aload_n hx hb dX10_now_48 rfl (lv_at hl 0 rfl) ?_
    refine gC_present S0 hG h dX10_now_49 ?_
    refine kPg_minute S0 hG h dX10_now_52 ?_
    exact hret _ (st, ((qtr f, sc f (qtr f), ring f, D.1.2.2.2.1, D.1.2.2.2.2), D.2)) _ _ _ _ (Or.inl ⟨⟨by omega, by omega⟩, by unfold nowV; rw [e8]; rfl, rfl⟩) h dX10_now_55
  ·
    refine i_swIn hx hb e8 (off := 48) (tgt := 56) dX10_now_8 (by decide) (by decide) rfl (by decide) ?_
    refine lv_aload_n hx hb dX10_now_56 rfl (lv_at hl 0 rfl) ?_
    refine gC_present S0 hG h dX10_now_57 ?_
    refine kPg_quarter S0 hG h dX10_now_60 ?_
    exact hret _ (st, ((qtr f, sc f (qtr f), ring f, D.1.2.2.2.1, D.1.2.2.2.2), D.2)) _ _ _ _ (Or.inl ⟨⟨by omega, by omega⟩, by unfold nowV; rw [e8]; rfl, rfl⟩) h dX10_now_63
  ·
    refine i_swIn hx hb e8 (off := 56) (tgt := 64) dX10_now_8 (by decide) (by decide) rfl (by decide) ?_
    refine lv_aload_n hx hb dX10_now_64 rfl (lv_at hl 0 rfl) ?_
    refine gC_present S0 hG h dX10_now_65 ?_
    refine kPg_spot S0 hG h dX10_now_68 ?_
    exact hret _ (st, ((qtr f, sc f (qtr f), ring f, D.1.2.2.2.1, D.1.2.2.2.2), D.2)) _ _ _ _ (Or.inl ⟨⟨by omega, by omega⟩, by unfold nowV; rw [e8]; rfl, rfl⟩) h dX10_now_71
  ·
    refine i_swIn hx hb e8 (off := 64) (tgt := 72) dX10_now_8 (by decide) (by decide) rfl (by decide) ?_
    refine lv_aload_n hx hb dX10_now_72 rfl (lv_at hl 0 rfl) ?_
    refine gC_present S0 hG h dX10_now_73 ?_
    refine kPg_ringing S0 hG h dX10_now_76 ?_
    exact hret _ (st, ((qtr f, sc f (qtr f), ring f, D.1.2.2.2.1, D.1.2.2.2.2), D.2)) _ _ _ _ (Or.inl ⟨⟨by omega, by omega⟩, by unfold nowV; rw [e8]; rfl, rfl⟩) h dX10_now_79
  ·
    refine i_swIn hx hb e8 (off := 72) (tgt := 80) dX10_now_8 (by decide) (by decide) rfl (by decide) ?_
    refine lv_aload_n hx hb dX10_now_80 rfl (lv_at hl 0 rfl) ?_
    refine gC_present S0 hG h dX10_now_81 ?_
    refine cN_iC (w2 := fun u => wC G o f st tb tn nu bi si kp g ((qtr f, sc f (qtr f), ring f, D.1.2.2.2.1, D.1.2.2.2.2), D.2)) S0 hG hA h hl.1 (ws_ok (rin8 _ (List.mem_of_getElem? (i := 16) rfl))) (rin2 _ (List.mem_of_getElem? (i := 3) rfl)) (rin8 _ (List.mem_of_getElem? (i := 14) rfl)) (rin8 _ (List.mem_of_getElem? (i := 15) rfl)) (host := "ComposedInterval") (List.mem_of_getElem? (i := 45) rfl) kdS_X3_whoIsDueHere (c_X3_whoIsDueHere (a := aP o) (f := f) (q := qtr f) (sp := sc f (qtr f)) (rg := ring f) (wd := D.1.2.2.2.1) (it := D.1.2.2.2.2) hI rfl rfl rfl) ⟨rfl, rfl, by decide, by decide, Nat.le_refl _, Nat.le_refl _⟩ rfl 3 1 rfl rfl [1, 2, 3, 4, 5, 6, 7, 8, 9, 10, 11, 12, 13, 14, 15, 16] (by decide) rfl rfl rfl (Nat.le_of_ble_eq_true rfl) dX10_now_84 (fun _ H1 hk hP1 => WX.back h [1, 2, 3, 4, 5, 6, 7, 8, 9, 10, 11, 12, 13, 14, 15, 16] rfl hk hP1 (fit_same rfl)) (fun _ => rfl) (fun r u H locs hq h => ?_)
    obtain rfl := hq
    exact hret _ (st, ((qtr f, sc f (qtr f), ring f, D.1.2.2.2.1, D.1.2.2.2.2), D.2)) _ _ _ _ (Or.inl ⟨⟨by omega, by omega⟩, by unfold nowV; rw [e8]; rfl, rfl⟩) h dX10_now_87
  ·
    refine i_swIn hx hb e8 (off := 80) (tgt := 88) dX10_now_8 (by decide) (by decide) rfl (by decide) ?_
    refine lv_ldc (v := nI 100000) hx hb S0.2.2.2.1 (S0.2.2.2.2 _ (rin8 _ (List.mem_of_getElem? (i := 10) rfl))) dX10_now_88 ?_
    refine lv_aload_n hx hb dX10_now_90 rfl (lv_at hl 0 rfl) ?_
    refine gC_present S0 hG h dX10_now_91 ?_
    refine cN_iC (w2 := fun u => wC G o f st tb tn nu bi si kp g ((qtr f, sc f (qtr f), ring f, D.1.2.2.2.1, D.1.2.2.2.2), D.2)) S0 hG hA h hl.1 (ws_ok (rin11 _ (List.mem_of_getElem? (i := 12) rfl))) (rin2 _ (List.mem_of_getElem? (i := 3) rfl)) (rin11 _ (List.mem_of_getElem? (i := 10) rfl)) (rin11 _ (List.mem_of_getElem? (i := 11) rfl)) (host := "ComposedInterval") (List.mem_of_getElem? (i := 47) rfl) kdS_X3_sumHarmony (c_X3_sumHarmony (a := aP o) (f := f) (q := qtr f) (sp := sc f (qtr f)) (rg := ring f) (wd := D.1.2.2.2.1) (it := D.1.2.2.2.2) hI) ⟨rfl, rfl, by decide, by decide, Nat.le_refl _, Nat.le_refl _⟩ rfl 3 1 rfl rfl [1, 2, 3, 4, 5, 6, 7, 8, 9, 10, 11, 12, 13, 14, 15, 16] (by decide) rfl rfl rfl (Nat.le_of_ble_eq_true rfl) dX10_now_94 (fun _ H1 hk hP1 => WX.back h [1, 2, 3, 4, 5, 6, 7, 8, 9, 10, 11, 12, 13, 14, 15, 16] rfl hk hP1 (fit_same rfl)) (fun _ => rfl) (fun r u H locs hq h => ?_)
    obtain rfl := hq
    refine lv_iadd hx hb dX10_now_97 ?_
    exact hret _ (st, ((qtr f, sc f (qtr f), ring f, D.1.2.2.2.1, D.1.2.2.2.2), D.2)) _ _ _ _ (Or.inl ⟨⟨by omega, by omega⟩, by unfold nowV; rw [e8]; rfl, rfl⟩) h dX10_now_98
  ·
    refine lv_tableOut hx hb (tgt := 99) dX10_now_8 (by omega) (by decide) ?_
    refine lv_aload_n hx hb dX10_now_99 rfl (lv_at hl 0 rfl) ?_
    refine lv_ldc (v := -1000000001) hx hb S0.2.2.2.1 (S0.2.2.2.2 _ (rin6 _ (List.mem_of_getElem? (i := 6) rfl))) dX10_now_100 ?_
    refine cV_i0 S0 hG hA h hl.1 kw_RX10_58 kdV_X10_tell (c_X10_tell (k := 0) (by decide) (by decide)) ⟨rfl, rfl, by decide, by decide, Nat.le_refl _, Nat.le_refl _⟩ rfl 10 0 rfl rfl rfl (Nat.le_of_ble_eq_true rfl) dX10_now_102 (fun _ => rfl) (fun r u H locs hq h => ?_)
    obtain rfl := hq
    exact hret _ (bump st 0, ((qtr f, sc f (qtr f), ring f, D.1.2.2.2.1, D.1.2.2.2.2), D.2)) _ _ _ _ (Or.inr ⟨fun q9 => by have := q9.1; have := q9.2; omega, rfl, rfl⟩) h dX10_now_105
