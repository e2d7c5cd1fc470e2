variable {G : GT} {l : Launch} {o : Nat → Nat} {f st tb : Row} {tn : Nat} {nu : Nat → Int64} {bi si : Row} {kp : Nat} {g : Row} {D : DT}
theorem kw_RX10_134 : GoodIn wsL_law (wsV RX10 134 RX4 yX4_walks (WS yX4_walks cX4_walks 4 (some .int))) := gV (rin16 _ (List.mem_of_getElem? (i := 10) rfl)) (rin16 _ (List.mem_of_getElem? (i := 9) rfl)) (rin16 _ (List.mem_of_getElem? (i := 11) rfl)) (rin2 _ (List.mem_of_getElem? (i := 23) rfl)) (rin16 _ (List.mem_of_getElem? (i := 0) rfl))
theorem kw_RX10_134_RX2 : GoodIn wsL_law (va_wsO RX10 134 RX2 "ComposedInterval$Guest" yX4_walks yX2_walks (WS yX2_walks cX2_walks 4 (some .int))) := gO (rin16 _ (List.mem_of_getElem? (i := 10) rfl)) (rin15 _ (List.mem_of_getElem? (i := 15) rfl)) (rin16 _ (List.mem_of_getElem? (i := 9) rfl)) (rin16 _ (List.mem_of_getElem? (i := 1) rfl)) (rin16 _ (List.mem_of_getElem? (i := 2) rfl)) (rin3 _ (List.mem_of_getElem? (i := 3) rfl)) (rin16 _ (List.mem_of_getElem? (i := 3) rfl))
theorem kw_RX10_134_RX8 : GoodIn wsL_law (va_wsO RX10 134 RX8 "ComposedInterval$Guest" yX4_walks yX8_walks (WS yX8_walks cX8_walks 4 (some .int))) := gO (rin16 _ (List.mem_of_getElem? (i := 10) rfl)) (rin15 _ (List.mem_of_getElem? (i := 15) rfl)) (rin16 _ (List.mem_of_getElem? (i := 9) rfl)) (rin16 _ (List.mem_of_getElem? (i := 18) rfl)) (rin15 _ (List.mem_of_getElem? (i := 22) rfl)) (rin3 _ (List.mem_of_getElem? (i := 7) rfl)) (rin15 _ (List.mem_of_getElem? (i := 23) rfl))
theorem kw_RX10_134_RX5 : GoodIn wsL_law (va_wsO RX10 134 RX5 "ComposedInterval$Guest" yX4_walks yX5_walks (WS yX5_walks cX5_walks 4 (some .int))) := gO (rin16 _ (List.mem_of_getElem? (i := 10) rfl)) (rin15 _ (List.mem_of_getElem? (i := 15) rfl)) (rin16 _ (List.mem_of_getElem? (i := 9) rfl)) (rin16 _ (List.mem_of_getElem? (i := 12) rfl)) (rin16 _ (List.mem_of_getElem? (i := 13) rfl)) (rin3 _ (List.mem_of_getElem? (i := 11) rfl)) (rin16 _ (List.mem_of_getElem? (i := 14) rfl))
theorem kw_RX10_134_RX1 : GoodIn wsL_law (va_wsO RX10 134 RX1 "ComposedInterval$Guest" yX4_walks yX1_walks (WS yX1_walks cX1_walks 4 (some .int))) := gO (rin16 _ (List.mem_of_getElem? (i := 10) rfl)) (rin15 _ (List.mem_of_getElem? (i := 15) rfl)) (rin16 _ (List.mem_of_getElem? (i := 9) rfl)) (rin15 _ (List.mem_of_getElem? (i := 17) rfl)) (rin15 _ (List.mem_of_getElem? (i := 18) rfl)) (rin3 _ (List.mem_of_getElem? (i := 15) rfl)) (rin15 _ (List.mem_of_getElem? (i := 19) rfl))
theorem kw_RX10_134_RX6 : GoodIn wsL_law (va_wsO RX10 134 RX6 "ComposedInterval$Guest" yX4_walks yX2_walks (WS yX2_walks cX2_walks 4 (some .int))) := gO (rin16 _ (List.mem_of_getElem? (i := 10) rfl)) (rin15 _ (List.mem_of_getElem? (i := 15) rfl)) (rin16 _ (List.mem_of_getElem? (i := 9) rfl)) (rin16 _ (List.mem_of_getElem? (i := 17) rfl)) (rin16 _ (List.mem_of_getElem? (i := 2) rfl)) (rin3 _ (List.mem_of_getElem? (i := 3) rfl)) (rin16 _ (List.mem_of_getElem? (i := 3) rfl))
theorem kw_RX10_140 : GoodIn wsL_law (wsV RX10 140 RX4 yX4_spoils (WS yX4_spoils cX4_spoils 1 (some .int))) := gV (rin17 _ (List.mem_of_getElem? (i := 11) rfl)) (rin17 _ (List.mem_of_getElem? (i := 10) rfl)) (rin17 _ (List.mem_of_getElem? (i := 12) rfl)) (rin2 _ (List.mem_of_getElem? (i := 23) rfl)) (rin17 _ (List.mem_of_getElem? (i := 5) rfl))
theorem kw_RX10_140_RX2 : GoodIn wsL_law (va_wsO RX10 140 RX2 "ComposedInterval$Guest" yX4_spoils yX2_spoils (WS yX2_spoils cX2_spoils 1 (some .int))) := gO (rin17 _ (List.mem_of_getElem? (i := 11) rfl)) (rin16 _ (List.mem_of_getElem? (i := 20) rfl)) (rin17 _ (List.mem_of_getElem? (i := 10) rfl)) (rin17 _ (List.mem_of_getElem? (i := 6) rfl)) (rin17 _ (List.mem_of_getElem? (i := 7) rfl)) (rin3 _ (List.mem_of_getElem? (i := 3) rfl)) (rin17 _ (List.mem_of_getElem? (i := 8) rfl))
theorem kw_RX10_140_RX8 : GoodIn wsL_law (va_wsO RX10 140 RX8 "ComposedInterval$Guest" yX4_spoils yX8_spoils (WS yX8_spoils cX8_spoils 1 (some .int))) := gO (rin17 _ (List.mem_of_getElem? (i := 11) rfl)) (rin16 _ (List.mem_of_getElem? (i := 20) rfl)) (rin17 _ (List.mem_of_getElem? (i := 10) rfl)) (rin17 _ (List.mem_of_getElem? (i := 21) rfl)) (rin17 _ (List.mem_of_getElem? (i := 3) rfl)) (rin3 _ (List.mem_of_getElem? (i := 7) rfl)) (rin17 _ (List.mem_of_getElem? (i := 4) rfl))
theorem kw_RX10_140_RX5 : GoodIn wsL_law (va_wsO RX10 140 RX5 "ComposedInterval$Guest" yX4_spoils yX5_spoils (WS yX5_spoils cX5_spoils 1 (some .int))) := gO (rin17 _ (List.mem_of_getElem? (i := 11) rfl)) (rin16 _ (List.mem_of_getElem? (i := 20) rfl)) (rin17 _ (List.mem_of_getElem? (i := 10) rfl)) (rin17 _ (List.mem_of_getElem? (i := 13) rfl)) (rin17 _ (List.mem_of_getElem? (i := 14) rfl)) (rin3 _ (List.mem_of_getElem? (i := 11) rfl)) (rin17 _ (List.mem_of_getElem? (i := 15) rfl))
theorem kw_RX10_140_RX1 : GoodIn wsL_law (va_wsO RX10 140 RX1 "ComposedInterval$Guest" yX4_spoils yX1_spoils (WS yX1_spoils cX1_spoils 1 (some .int))) := gO (rin17 _ (List.mem_of_getElem? (i := 11) rfl)) (rin16 _ (List.mem_of_getElem? (i := 20) rfl)) (rin17 _ (List.mem_of_getElem? (i := 10) rfl)) (rin16 _ (List.mem_of_getElem? (i := 22) rfl)) (rin16 _ (List.mem_of_getElem? (i := 23) rfl)) (rin3 _ (List.mem_of_getElem? (i := 15) rfl)) (rin17 _ (List.mem_of_getElem? (i := 0) rfl))
theorem kw_RX10_140_RX6 : GoodIn wsL_law (va_wsO RX10 140 RX6 "ComposedInterval$Guest" yX4_spoils yX6_spoils (WS yX6_spoils cX6_spoils 1 (some .int))) := gO (rin17 _ (List.mem_of_getElem? (i := 11) rfl)) (rin16 _ (List.mem_of_getElem? (i := 20) rfl)) (rin17 _ (List.mem_of_getElem? (i := 10) rfl)) (rin17 _ (List.mem_of_getElem? (i := 16) rfl)) (rin17 _ (List.mem_of_getElem? (i := 17) rfl)) (rin3 _ (List.mem_of_getElem? (i := 19) rfl)) (rin17 _ (List.mem_of_getElem? (i := 18) rfl))
theorem kdS_X3_dueOf : yX3_dueOf.cls ≠ "java/lang/invoke/MethodHandle" ∧ yX3_dueOf.cls ≠ "java/lang/invoke/VarHandle" ∧ (parseMethodDescriptor yX3_dueOf.desc).map (fun d => d.parameters.length) = some 1 := ⟨by decide +kernel, by decide +kernel, by decide +kernel⟩
theorem kdS_X3_isDeceived : yX3_isDeceived.cls ≠ "java/lang/invoke/MethodHandle" ∧ yX3_isDeceived.cls ≠ "java/lang/invoke/VarHandle" ∧ (parseMethodDescriptor yX3_isDeceived.desc).map (fun d => d.parameters.length) = some 1 := ⟨by decide +kernel, by decide +kernel, by decide +kernel⟩
theorem kdS_X3_guest : yX3_guest.cls ≠ "java/lang/invoke/MethodHandle" ∧ yX3_guest.cls ≠ "java/lang/invoke/VarHandle" ∧ (parseMethodDescriptor yX3_guest.desc).map (fun d => d.parameters.length) = some 1 := ⟨by decide +kernel, by decide +kernel, by decide +kernel⟩
set_option maxHeartbeats 4000000 in
set_option maxRecDepth 100000 in
theorem c_X10_of {x y : Int32} (hI : Inv f) : Ki G l yX10_of cX10_of 3 (some .int) (RM 5 89) [.ref (o 0), .int x, .int y] (wC G o f st tb tn nu bi si kp g D) (fun u : Row × DT => wC G o f u.1 tb tn nu bi si kp g u.2) (fun r u => P_of f st x y r u.1) := by
  refine Ki.of (by decide) (Nat.le_of_ble_eq_true rfl) ?_
  intro p e s m args below meth c A Q ls hx hb S0 hG hA h hret hl
  have S0 : CF p m c cX10_of 3 s args RX10 := S0
  have hl : lv_has ls 3 [(0, .ref (o 0)), (1, .int x), (2, .int y)] := hl
  have h8 := hI.2.1
  refine lv_aload_n hx hb dX10_of_0 rfl (lv_at hl 0 rfl) ?_
  refine lv_iload_n hx hb dX10_of_1 rfl (lv_at hl 1 rfl) ?_
  refine cV_i0 S0 hG hA h hl.1 kw_RX10_106 kdV_X10_isNobody (c_X10_isNobody hI.2.1) ⟨rfl, rfl, by decide, by decide, Nat.le_refl _, Nat.le_refl _⟩ rfl 10 0 rfl rfl rfl (Nat.le_of_ble_eq_true rfl) dX10_of_2 (fun _ => rfl) (fun r u H locs hq h => ?_)
  rcases hq with ⟨rfl, b2⟩ | ⟨rfl, b2⟩
  ·
    refine n_zeq hx hb (by decide) (tgt := 15) dX10_of_5 (by decide) (fun q => absurd q (by decide)) (fun _ => ?_)
    refine lv_aload_n hx hb dX10_of_8 rfl (lv_at hl 0 rfl) ?_
    refine lv_ldc (v := -1000000001) hx hb S0.2.2.2.1 (S0.2.2.2.2 _ (rin6 _ (List.mem_of_getElem? (i := 6) rfl))) dX10_of_9 ?_
    refine cV_i0 S0 hG hA h hl.1 kw_RX10_58 kdV_X10_tell (c_X10_tell (k := 0) (by decide) (by decide)) ⟨rfl, rfl, by decide, by decide, Nat.le_refl _, Nat.le_refl _⟩ rfl 10 0 rfl rfl rfl (Nat.le_of_ble_eq_true rfl) dX10_of_11 (fun _ => rfl) (fun r u H locs hq h => ?_)
    obtain rfl := hq
    exact hret _ (bump st 0, D) _ _ _ _ (Or.inr ⟨fun q9 => b2 q9.1, rfl, rfl⟩) h dX10_of_14
  ·
    obtain ⟨jx, rfl, jx1, jx2⟩ := inR_nat (hi := (f 1 : Int) - 1) b2
    have x8 : jx < 8 := by omega
    have k5 := (hI.2.2.2.2 jx x8).1
    refine n_zeq hx hb (by decide) (tgt := 15) dX10_of_5 (by decide) (fun _ => ?_) (fun q => absurd q (by decide))
    refine lv_aload_n hx hb dX10_of_15 rfl (lv_at hl 0 rfl) ?_
    refine gC_present S0 hG h dX10_of_16 ?_
    refine cN_vC (w2 := fun u => wC G o f st tb tn nu bi si kp g ((qtr f, sc f (qtr f), ring f, D.1.2.2.2.1, D.1.2.2.2.2), D.2)) S0 hG hA h hl.1 (ws_ok (rin8 _ (List.mem_of_getElem? (i := 13) rfl))) (rin2 _ (List.mem_of_getElem? (i := 3) rfl)) (rin8 _ (List.mem_of_getElem? (i := 11) rfl)) (rin8 _ (List.mem_of_getElem? (i := 12) rfl)) (host := "ComposedInterval") (List.mem_of_getElem? (i := 44) rfl) kdS_X3_look (c_X3_look (a := aP o) (f := f) (q := D.1.1) (sp := D.1.2.1) (rg := D.1.2.2.1) (wd := D.1.2.2.2.1) (it := D.1.2.2.2.2) hI) ⟨rfl, rfl, by decide, by decide, Nat.le_refl _, Nat.le_refl _⟩ rfl 3 1 rfl rfl [1, 2, 3, 4, 5, 6, 7, 8, 9, 10, 11, 12, 13, 14, 15, 16] (by decide) rfl rfl rfl (Nat.le_of_ble_eq_true rfl) dX10_of_19 (fun _ H1 hk hP1 => WX.back h [1, 2, 3, 4, 5, 6, 7, 8, 9, 10, 11, 12, 13, 14, 15, 16] rfl hk hP1 fit_P) (fun _ => rfl) (fun u H locs hq h => ?_)
    refine lv_iload_n hx hb dX10_of_22 rfl (lv_at hl 2 rfl) ?_
    rcases (show y.toInt = 0 ∨ y.toInt = 1 ∨ y.toInt = 2 ∨ y.toInt = 3 ∨ y.toInt = 4 ∨ y.toInt = 5 ∨ y.toInt = 6 ∨ y.toInt = 7 ∨ y.toInt = 8 ∨ (y.toInt < 0 ∨ 8 < y.toInt) by omega) with e23 | e23 | e23 | e23 | e23 | e23 | e23 | e23 | e23 | e23
    ·
      refine i_swIn hx hb e23 (off := 49) (tgt := 72) dX10_of_23 (by decide) (by decide) rfl (by decide) ?_
      refine lv_aload_n hx hb dX10_of_72 rfl (lv_at hl 0 rfl) ?_
      refine gC_present S0 hG h dX10_of_73 ?_
      refine kPg_kind S0 hG h dX10_of_76 ?_
      refine lv_iload_n hx hb dX10_of_79 rfl (lv_at hl 1 rfl) ?_
      refine kPr_kind S0 hG h (by omega) dX10_of_80 ?_
      exact hret _ (st, ((qtr f, sc f (qtr f), ring f, D.1.2.2.2.1, D.1.2.2.2.2), D.2)) _ _ _ _ (Or.inl ⟨⟨b2, by omega, by omega⟩, by unfold ofV; rw [e23, nt_nI jx2]; rfl, rfl⟩) h dX10_of_81
    ·
      refine i_swIn hx hb e23 (off := 59) (tgt := 82) dX10_of_23 (by decide) (by decide) rfl (by decide) ?_
      refine lv_aload_n hx hb dX10_of_82 rfl (lv_at hl 0 rfl) ?_
      refine gC_present S0 hG h dX10_of_83 ?_
      refine kPg_at S0 hG h dX10_of_86 ?_
      refine lv_iload_n hx hb dX10_of_89 rfl (lv_at hl 1 rfl) ?_
      refine kPr_at S0 hG h (by omega) dX10_of_90 ?_
      exact hret _ (st, ((qtr f, sc f (qtr f), ring f, D.1.2.2.2.1, D.1.2.2.2.2), D.2)) _ _ _ _ (Or.inl ⟨⟨b2, by omega, by omega⟩, by unfold ofV; rw [e23, nt_nI jx2]; rfl, rfl⟩) h dX10_of_91
    ·
      refine i_swIn hx hb e23 (off := 69) (tgt := 92) dX10_of_23 (by decide) (by decide) rfl (by decide) ?_
      refine lv_aload_n hx hb dX10_of_92 rfl (lv_at hl 0 rfl) ?_
      refine gC_present S0 hG h dX10_of_93 ?_
      refine kPg_quick S0 hG h dX10_of_96 ?_
      refine lv_iload_n hx hb dX10_of_99 rfl (lv_at hl 1 rfl) ?_
      refine kPr_quick S0 hG h (by omega) dX10_of_100 ?_
      exact hret _ (st, ((qtr f, sc f (qtr f), ring f, D.1.2.2.2.1, D.1.2.2.2.2), D.2)) _ _ _ _ (Or.inl ⟨⟨b2, by omega, by omega⟩, by unfold ofV; rw [e23, nt_nI jx2]; rfl, rfl⟩) h dX10_of_101
    ·
      refine i_swIn hx hb e23 (off := 79) (tgt := 102) dX10_of_23 (by decide) (by decide) rfl (by decide) ?_
      refine lv_aload_n hx hb dX10_of_102 rfl (lv_at hl 0 rfl) ?_
      refine gC_present S0 hG h dX10_of_103 ?_
      refine kPg_played S0 hG h dX10_of_106 ?_
      refine lv_iload_n hx hb dX10_of_109 rfl (lv_at hl 1 rfl) ?_
      refine kPr_played S0 hG h (by omega) dX10_of_110 ?_
      exact hret _ (st, ((qtr f, sc f (qtr f), ring f, D.1.2.2.2.1, D.1.2.2.2.2), D.2)) _ _ _ _ (Or.inl ⟨⟨b2, by omega, by omega⟩, by unfold ofV; rw [e23, nt_nI jx2]; rfl, rfl⟩) h dX10_of_111
    ·
      refine i_swIn hx hb e23 (off := 89) (tgt := 112) dX10_of_23 (by decide) (by decide) rfl (by decide) ?_
      refine lv_aload_n hx hb dX10_of_112 rfl (lv_at hl 0 rfl) ?_
      refine gC_present S0 hG h dX10_of_113 ?_
      refine kPg_spoilt S0 hG h dX10_of_116 ?_
      refine lv_iload_n hx hb dX10_of_119 rfl (lv_at hl 1 rfl) ?_
      refine kPr_spoilt S0 hG h (by omega) dX10_of_120 ?_
      exact hret _ (st, ((qtr f, sc f (qtr f), ring f, D.1.2.2.2.1, D.1.2.2.2.2), D.2)) _ _ _ _ (Or.inl ⟨⟨b2, by omega, by omega⟩, by unfold ofV; rw [e23, nt_nI jx2]; rfl, rfl⟩) h dX10_of_121
    ·
      refine i_swIn hx hb e23 (off := 99) (tgt := 122) dX10_of_23 (by decide) (by decide) rfl (by decide) ?_
      refine lv_aload_n hx hb dX10_of_122 rfl (lv_at hl 0 rfl) ?_
      refine gC_present S0 hG h dX10_of_123 ?_
      refine lv_iload_n hx hb dX10_of_126 rfl (lv_at hl 1 rfl) ?_
      refine cN_iC (w2 := fun u => wC G o f st tb tn nu bi si kp g ((qtr f, sc f (qtr f), ring f, D.1.2.2.2.1, D.1.2.2.2.2), D.2)) S0 hG hA h hl.1 (ws_ok (rin8 _ (List.mem_of_getElem? (i := 20) rfl))) (rin2 _ (List.mem_of_getElem? (i := 3) rfl)) (rin8 _ (List.mem_of_getElem? (i := 18) rfl)) (rin8 _ (List.mem_of_getElem? (i := 19) rfl)) (host := "ComposedInterval") (List.mem_of_getElem? (i := 50) rfl) kdS_X3_dueOf (c_X3_dueOf (a := aP o) (f := f) (q := qtr f) (sp := sc f (qtr f)) (rg := ring f) (wd := D.1.2.2.2.1) (it := D.1.2.2.2.2) x8 hI rfl rfl rfl) ⟨rfl, rfl, by decide, by decide, Nat.le_refl _, Nat.le_refl _⟩ rfl 3 1 rfl rfl [1, 2, 3, 4, 5, 6, 7, 8, 9, 10, 11, 12, 13, 14, 15, 16] (by decide) rfl rfl rfl (Nat.le_of_ble_eq_true rfl) dX10_of_127 (fun _ H1 hk hP1 => WX.back h [1, 2, 3, 4, 5, 6, 7, 8, 9, 10, 11, 12, 13, 14, 15, 16] rfl hk hP1 (fit_same rfl)) (fun _ => rfl) (fun r u H locs hq h => ?_)
      obtain rfl := hq
      exact hret _ (st, ((qtr f, sc f (qtr f), ring f, D.1.2.2.2.1, D.1.2.2.2.2), D.2)) _ _ _ _ (Or.inl ⟨⟨b2, by omega, by omega⟩, by unfold ofV; rw [e23, nt_nI jx2]; rfl, rfl⟩) h dX10_of_130
    ·
      refine i_swIn hx hb e23 (off := 108) (tgt := 131) dX10_of_23 (by decide) (by decide) rfl (by decide) ?_
      refine lv_aload_n hx hb dX10_of_131 rfl (lv_at hl 0 rfl) ?_
      refine gC_present S0 hG h dX10_of_132 ?_
      refine lv_iload_n hx hb dX10_of_135 rfl (lv_at hl 1 rfl) ?_
      refine cN_iC (w2 := fun u => wC G o f st tb tn nu bi si kp g ((qtr f, sc f (qtr f), ring f, D.1.2.2.2.1, D.1.2.2.2.2), D.2)) S0 hG hA h hl.1 (ws_ok (rin15 _ (List.mem_of_getElem? (i := 13) rfl))) (rin2 _ (List.mem_of_getElem? (i := 3) rfl)) (rin15 _ (List.mem_of_getElem? (i := 11) rfl)) (rin15 _ (List.mem_of_getElem? (i := 12) rfl)) (host := "ComposedInterval") (List.mem_of_getElem? (i := 51) rfl) kdS_X3_isDeceived (c_X3_isDeceived (a := aP o) (f := f) (q := qtr f) (sp := sc f (qtr f)) (rg := ring f) (wd := D.1.2.2.2.1) (it := D.1.2.2.2.2) x8 hI rfl rfl rfl) ⟨rfl, rfl, by decide, by decide, Nat.le_refl _, Nat.le_refl _⟩ rfl 3 1 rfl rfl [1, 2, 3, 4, 5, 6, 7, 8, 9, 10, 11, 12, 13, 14, 15, 16] (by decide) rfl rfl rfl (Nat.le_of_ble_eq_true rfl) dX10_of_136 (fun _ H1 hk hP1 => WX.back h [1, 2, 3, 4, 5, 6, 7, 8, 9, 10, 11, 12, 13, 14, 15, 16] rfl hk hP1 (fit_same rfl)) (fun _ => rfl) (fun r u H locs hq h => ?_)
      rcases hq with ⟨rfl, b136⟩ | ⟨rfl, b136⟩
      ·
        refine n_zeq hx hb (by decide) (tgt := 146) dX10_of_139 (by decide) (fun q => absurd q (by decide)) (fun _ => ?_)
        refine lv_iconst (v := nI 1) hx hb dX10_of_142 (by decide) ?_
        refine lv_goto (tgt := 147) hx hb dX10_of_143 (by decide) ?_
        exact hret _ (st, ((qtr f, sc f (qtr f), ring f, D.1.2.2.2.1, D.1.2.2.2.2), D.2)) _ _ _ _ (Or.inl ⟨⟨b2, by omega, by omega⟩, by unfold ofV; rw [e23, nt_nI jx2]; show _ = (if hears f jx = true then nI 1 else nI 0); rw [b136]; rfl, rfl⟩) h dX10_of_147
      ·
        refine n_zeq hx hb (by decide) (tgt := 146) dX10_of_139 (by decide) (fun _ => ?_) (fun q => absurd q (by decide))
        refine lv_iconst (v := nI 0) hx hb dX10_of_146 (by decide) ?_
        exact hret _ (st, ((qtr f, sc f (qtr f), ring f, D.1.2.2.2.1, D.1.2.2.2.2), D.2)) _ _ _ _ (Or.inl ⟨⟨b2, by omega, by omega⟩, by unfold ofV; rw [e23, nt_nI jx2]; show _ = (if hears f jx = true then nI 1 else nI 0); rw [b136]; rfl, rfl⟩) h dX10_of_147
    ·
      refine i_swIn hx hb e23 (off := 125) (tgt := 148) dX10_of_23 (by decide) (by decide) rfl (by decide) ?_
      refine lv_aload_n hx hb dX10_of_148 rfl (lv_at hl 0 rfl) ?_
      refine gC_present S0 hG h dX10_of_149 ?_
      refine lv_iload_n hx hb dX10_of_152 rfl (lv_at hl 1 rfl) ?_
      refine cN_rC (w2 := fun u => wC G o f st tb tn nu bi si kp g ((qtr f, sc f (qtr f), ring f, D.1.2.2.2.1, D.1.2.2.2.2), D.2)) S0 hG hA h hl.1 (ws_ok (rin9 _ (List.mem_of_getElem? (i := 0) rfl))) (rin2 _ (List.mem_of_getElem? (i := 3) rfl)) (rin8 _ (List.mem_of_getElem? (i := 22) rfl)) (rin8 _ (List.mem_of_getElem? (i := 23) rfl)) (host := "ComposedInterval") (List.mem_of_getElem? (i := 52) rfl) kdS_X3_guest (c_X3_guest (a := aP o) (f := f) (q := qtr f) (sp := sc f (qtr f)) (rg := ring f) (wd := D.1.2.2.2.1) (it := D.1.2.2.2.2) x8 hI) ⟨rfl, rfl, by decide, by decide, Nat.le_refl _, Nat.le_refl _⟩ rfl 3 1 rfl rfl [1, 2, 3, 4, 5, 6, 7, 8, 9, 10, 11, 12, 13, 14, 15, 16] (by decide) rfl rfl rfl (Nat.le_of_ble_eq_true rfl) dX10_of_153 (fun _ H1 hk hP1 => WX.back h [1, 2, 3, 4, 5, 6, 7, 8, 9, 10, 11, 12, 13, 14, 15, 16] rfl hk hP1 (fit_same rfl)) (fun _ => rfl) (fun u H locs hq h => ?_)
      rcases (show its f jx 0 = 0 ∨ its f jx 0 = 1 ∨ its f jx 0 = 2 ∨ its f jx 0 = 3 ∨ its f jx 0 = 4 ∨ its f jx 0 = 5 by omega) with k153 | k153 | k153 | k153 | k153 | k153
      ·
        rw [k153]
        refine lv_aload_n hx hb dX10_of_156 rfl (lv_at hl 0 rfl) ?_
        refine gC_present S0 hG h dX10_of_157 ?_
        refine lv_iload_n hx hb dX10_of_160 rfl (lv_at hl 1 rfl) ?_
        refine lv_aload_n hx hb dX10_of_161 rfl (lv_at hl 0 rfl) ?_
        refine gC_present S0 hG h dX10_of_162 ?_
        refine lv_iload_n hx hb dX10_of_165 rfl (lv_at hl 1 rfl) ?_
        refine cN_iC (w2 := fun u => wC G o f st tb tn nu bi si kp g ((qtr f, sc f (qtr f), ring f, D.1.2.2.2.1, D.1.2.2.2.2), D.2)) S0 hG hA h hl.1 (ws_ok (rin8 _ (List.mem_of_getElem? (i := 20) rfl))) (rin2 _ (List.mem_of_getElem? (i := 3) rfl)) (rin8 _ (List.mem_of_getElem? (i := 18) rfl)) (rin8 _ (List.mem_of_getElem? (i := 19) rfl)) (host := "ComposedInterval") (List.mem_of_getElem? (i := 50) rfl) kdS_X3_dueOf (c_X3_dueOf (a := aP o) (f := f) (q := qtr f) (sp := sc f (qtr f)) (rg := ring f) (wd := D.1.2.2.2.1) (it := D.1.2.2.2.2) x8 hI rfl rfl rfl) ⟨rfl, rfl, by decide, by decide, Nat.le_refl _, Nat.le_refl _⟩ rfl 3 1 rfl rfl [1, 2, 3, 4, 5, 6, 7, 8, 9, 10, 11, 12, 13, 14, 15, 16] (by decide) rfl rfl rfl (Nat.le_of_ble_eq_true rfl) dX10_of_166 (fun _ H1 hk hP1 => WX.back h [1, 2, 3, 4, 5, 6, 7, 8, 9, 10, 11, 12, 13, 14, 15, 16] rfl hk hP1 (fit_same rfl)) (fun _ => rfl) (fun r u H locs hq h => ?_)
        obtain rfl := hq
        refine cV_iC (w2 := fun _ => wC G o f st tb tn nu bi si kp g ((qtr f, sc f (qtr f), ring f, D.1.2.2.2.1, D.1.2.2.2.2), D.2)) S0 hG hA h hl.1 kw_RX10_134 kdV_X4_walks (c_X4_walks (b := o 11) (a := aP o) (f := f) (q := qtr f) (sp := sc f (qtr f)) (rg := ring f) (wd := D.1.2.2.2.1) (it := D.1.2.2.2.2) x8) ⟨rfl, rfl, by decide, by decide, Nat.le_refl _, Nat.le_refl _⟩ rfl 4 11 rfl rfl [1, 2, 3, 4, 5, 6, 7, 8, 9, 10, 11, 12, 13, 14, 15, 16] (by decide) rfl rfl rfl (Nat.le_of_ble_eq_true rfl) dX10_of_169 (fun _ H1 hk hP1 => WX.back h [1, 2, 3, 4, 5, 6, 7, 8, 9, 10, 11, 12, 13, 14, 15, 16] rfl hk hP1 (fit_same rfl)) (fun _ => rfl) (fun r u H locs hq h => ?_)
        obtain rfl := hq
        exact hret _ (st, ((qtr f, sc f (qtr f), ring f, D.1.2.2.2.1, D.1.2.2.2.2), D.2)) _ _ _ _ (Or.inl ⟨⟨b2, by omega, by omega⟩, by unfold ofV; rw [e23, nt_nI jx2]; show _ = nI (walk f jx); unfold walk; rw [k153]; rfl, rfl⟩) h dX10_of_172
      ·
        rw [k153]
        refine lv_aload_n hx hb dX10_of_156 rfl (lv_at hl 0 rfl) ?_
        refine gC_present S0 hG h dX10_of_157 ?_
        refine lv_iload_n hx hb dX10_of_160 rfl (lv_at hl 1 rfl) ?_
        refine lv_aload_n hx hb dX10_of_161 rfl (lv_at hl 0 rfl) ?_
        refine gC_present S0 hG h dX10_of_162 ?_
        refine lv_iload_n hx hb dX10_of_165 rfl (lv_at hl 1 rfl) ?_
        refine cN_iC (w2 := fun u => wC G o f st tb tn nu bi si kp g ((qtr f, sc f (qtr f), ring f, D.1.2.2.2.1, D.1.2.2.2.2), D.2)) S0 hG hA h hl.1 (ws_ok (rin8 _ (List.mem_of_getElem? (i := 20) rfl))) (rin2 _ (List.mem_of_getElem? (i := 3) rfl)) (rin8 _ (List.mem_of_getElem? (i := 18) rfl)) (rin8 _ (List.mem_of_getElem? (i := 19) rfl)) (host := "ComposedInterval") (List.mem_of_getElem? (i := 50) rfl) kdS_X3_dueOf (c_X3_dueOf (a := aP o) (f := f) (q := qtr f) (sp := sc f (qtr f)) (rg := ring f) (wd := D.1.2.2.2.1) (it := D.1.2.2.2.2) x8 hI rfl rfl rfl) ⟨rfl, rfl, by decide, by decide, Nat.le_refl _, Nat.le_refl _⟩ rfl 3 1 rfl rfl [1, 2, 3, 4, 5, 6, 7, 8, 9, 10, 11, 12, 13, 14, 15, 16] (by decide) rfl rfl rfl (Nat.le_of_ble_eq_true rfl) dX10_of_166 (fun _ H1 hk hP1 => WX.back h [1, 2, 3, 4, 5, 6, 7, 8, 9, 10, 11, 12, 13, 14, 15, 16] rfl hk hP1 (fit_same rfl)) (fun _ => rfl) (fun r u H locs hq h => ?_)
        obtain rfl := hq
        refine cO_iC (w2 := fun _ => wC G o f st tb tn nu bi si kp g ((qtr f, sc f (qtr f), ring f, D.1.2.2.2.1, D.1.2.2.2.2), D.2)) S0 hG hA h hl.1 kw_RX10_134_RX2 (rin16 _ (List.mem_of_getElem? (i := 0) rfl)) kdG_walks (c_X2_walks (b := o 12) (q0 := 11) (ci := 2) (a := aP o) (f := f) (q := qtr f) (sp := sc f (qtr f)) (rg := ring f) (wd := D.1.2.2.2.1) (it := D.1.2.2.2.2) rfl rfl x8 hI rfl) ⟨rfl, rfl, by decide, by decide, Nat.le_refl _, Nat.le_refl _⟩ rfl 2 12 rfl rfl [1, 2, 3, 4, 5, 6, 7, 8, 9, 10, 11, 12, 13, 14, 15, 16] (by decide) rfl rfl rfl (Nat.le_of_ble_eq_true rfl) dX10_of_169 (fun _ H1 hk hP1 => WX.back h [1, 2, 3, 4, 5, 6, 7, 8, 9, 10, 11, 12, 13, 14, 15, 16] rfl hk hP1 (fit_same rfl)) (fun _ => rfl) (fun r u H locs hq h => ?_)
        obtain rfl := hq
        exact hret _ (st, ((qtr f, sc f (qtr f), ring f, D.1.2.2.2.1, D.1.2.2.2.2), D.2)) _ _ _ _ (Or.inl ⟨⟨b2, by omega, by omega⟩, by unfold ofV; rw [e23, nt_nI jx2]; show _ = nI (walk f jx); unfold walk; rw [k153]; rfl, rfl⟩) h dX10_of_172
      ·
        rw [k153]
        refine lv_aload_n hx hb dX10_of_156 rfl (lv_at hl 0 rfl) ?_
        refine gC_present S0 hG h dX10_of_157 ?_
        refine lv_iload_n hx hb dX10_of_160 rfl (lv_at hl 1 rfl) ?_
        refine lv_aload_n hx hb dX10_of_161 rfl (lv_at hl 0 rfl) ?_
        refine gC_present S0 hG h dX10_of_162 ?_
        refine lv_iload_n hx hb dX10_of_165 rfl (lv_at hl 1 rfl) ?_
        refine cN_iC (w2 := fun u => wC G o f st tb tn nu bi si kp g ((qtr f, sc f (qtr f), ring f, D.1.2.2.2.1, D.1.2.2.2.2), D.2)) S0 hG hA h hl.1 (ws_ok (rin8 _ (List.mem_of_getElem? (i := 20) rfl))) (rin2 _ (List.mem_of_getElem? (i := 3) rfl)) (rin8 _ (List.mem_of_getElem? (i := 18) rfl)) (rin8 _ (List.mem_of_getElem? (i := 19) rfl)) (host := "ComposedInterval") (List.mem_of_getElem? (i := 50) rfl) kdS_X3_dueOf (c_X3_dueOf (a := aP o) (f := f) (q := qtr f) (sp := sc f (qtr f)) (rg := ring f) (wd := D.1.2.2.2.1) (it := D.1.2.2.2.2) x8 hI rfl rfl rfl) ⟨rfl, rfl, by decide, by decide, Nat.le_refl _, Nat.le_refl _⟩ rfl 3 1 rfl rfl [1, 2, 3, 4, 5, 6, 7, 8, 9, 10, 11, 12, 13, 14, 15, 16] (by decide) rfl rfl rfl (Nat.le_of_ble_eq_true rfl) dX10_of_166 (fun _ H1 hk hP1 => WX.back h [1, 2, 3, 4, 5, 6, 7, 8, 9, 10, 11, 12, 13, 14, 15, 16] rfl hk hP1 (fit_same rfl)) (fun _ => rfl) (fun r u H locs hq h => ?_)
        obtain rfl := hq
        refine cO_iC (w2 := fun _ => wC G o f st tb tn nu bi si kp g ((qtr f, sc f (qtr f), ring f, D.1.2.2.2.1, D.1.2.2.2.2), D.2)) S0 hG hA h hl.1 kw_RX10_134_RX8 (rin16 _ (List.mem_of_getElem? (i := 0) rfl)) kdG_walks (c_X8_walks (b := o 13) (a := aP o) (f := f) (q := qtr f) (sp := sc f (qtr f)) (rg := ring f) (wd := D.1.2.2.2.1) (it := D.1.2.2.2.2)) ⟨rfl, rfl, by decide, by decide, Nat.le_refl _, Nat.le_refl _⟩ rfl 8 13 rfl rfl [1, 2, 3, 4, 5, 6, 7, 8, 9, 10, 11, 12, 13, 14, 15, 16] (by decide) rfl rfl rfl (Nat.le_of_ble_eq_true rfl) dX10_of_169 (fun _ H1 hk hP1 => WX.back h [1, 2, 3, 4, 5, 6, 7, 8, 9, 10, 11, 12, 13, 14, 15, 16] rfl hk hP1 (fit_same rfl)) (fun _ => rfl) (fun r u H locs hq h => ?_)
        obtain rfl := hq
        exact hret _ (st, ((qtr f, sc f (qtr f), ring f, D.1.2.2.2.1, D.1.2.2.2.2), D.2)) _ _ _ _ (Or.inl ⟨⟨b2, by omega, by omega⟩, by unfold ofV; rw [e23, nt_nI jx2]; show _ = nI (walk f jx); unfold walk; rw [k153]; rfl, rfl⟩) h dX10_of_172
      ·
        rw [k153]
        refine lv_aload_n hx hb dX10_of_156 rfl (lv_at hl 0 rfl) ?_
        refine gC_present S0 hG h dX10_of_157 ?_
        refine lv_iload_n hx hb dX10_of_160 rfl (lv_at hl 1 rfl) ?_
        refine lv_aload_n hx hb dX10_of_161 rfl (lv_at hl 0 rfl) ?_
        refine gC_present S0 hG h dX10_of_162 ?_
        refine lv_iload_n hx hb dX10_of_165 rfl (lv_at hl 1 rfl) ?_
        refine cN_iC (w2 := fun u => wC G o f st tb tn nu bi si kp g ((qtr f, sc f (qtr f), ring f, D.1.2.2.2.1, D.1.2.2.2.2), D.2)) S0 hG hA h hl.1 (ws_ok (rin8 _ (List.mem_of_getElem? (i := 20) rfl))) (rin2 _ (List.mem_of_getElem? (i := 3) rfl)) (rin8 _ (List.mem_of_getElem? (i := 18) rfl)) (rin8 _ (List.mem_of_getElem? (i := 19) rfl)) (host := "ComposedInterval") (List.mem_of_getElem? (i := 50) rfl) kdS_X3_dueOf (c_X3_dueOf (a := aP o) (f := f) (q := qtr f) (sp := sc f (qtr f)) (rg := ring f) (wd := D.1.2.2.2.1) (it := D.1.2.2.2.2) x8 hI rfl rfl rfl) ⟨rfl, rfl, by decide, by decide, Nat.le_refl _, Nat.le_refl _⟩ rfl 3 1 rfl rfl [1, 2, 3, 4, 5, 6, 7, 8, 9, 10, 11, 12, 13, 14, 15, 16] (by decide) rfl rfl rfl (Nat.le_of_ble_eq_true rfl) dX10_of_166 (fun _ H1 hk hP1 => WX.back h [1, 2, 3, 4, 5, 6, 7, 8, 9, 10, 11, 12, 13, 14, 15, 16] rfl hk hP1 (fit_same rfl)) (fun _ => rfl) (fun r u H locs hq h => ?_)
        obtain rfl := hq
        refine cO_iC (w2 := fun _ => wC G o f st tb tn nu bi si kp g ((qtr f, sc f (qtr f), ring f, D.1.2.2.2.1, D.1.2.2.2.2), D.2)) S0 hG hA h hl.1 kw_RX10_134_RX5 (rin16 _ (List.mem_of_getElem? (i := 0) rfl)) kdG_walks (c_X5_walks (b := o 14) (q0 := 13) (ci := 5) (a := aP o) (f := f) (q := qtr f) (sp := sc f (qtr f)) (rg := ring f) (wd := D.1.2.2.2.1) (it := D.1.2.2.2.2) rfl rfl x8) ⟨rfl, rfl, by decide, by decide, Nat.le_refl _, Nat.le_refl _⟩ rfl 5 14 rfl rfl [1, 2, 3, 4, 5, 6, 7, 8, 9, 10, 11, 12, 13, 14, 15, 16] (by decide) rfl rfl rfl (Nat.le_of_ble_eq_true rfl) dX10_of_169 (fun _ H1 hk hP1 => WX.back h [1, 2, 3, 4, 5, 6, 7, 8, 9, 10, 11, 12, 13, 14, 15, 16] rfl hk hP1 (fit_same rfl)) (fun _ => rfl) (fun r u H locs hq h => ?_)
        obtain rfl := hq
        exact hret _ (st, ((qtr f, sc f (qtr f), ring f, D.1.2.2.2.1, D.1.2.2.2.2), D.2)) _ _ _ _ (Or.inl ⟨⟨b2, by omega, by omega⟩, by unfold ofV; rw [e23, nt_nI jx2]; show _ = nI (walk f jx); unfold walk; rw [k153]; rfl, rfl⟩) h dX10_of_172
      ·
        rw [k153]
        refine lv_aload_n hx hb dX10_of_156 rfl (lv_at hl 0 rfl) ?_
        refine gC_present S0 hG h dX10_of_157 ?_
        refine lv_iload_n hx hb dX10_of_160 rfl (lv_at hl 1 rfl) ?_
        refine lv_aload_n hx hb dX10_of_161 rfl (lv_at hl 0 rfl) ?_
        refine gC_present S0 hG h dX10_of_162 ?_
        refine lv_iload_n hx hb dX10_of_165 rfl (lv_at hl 1 rfl) ?_
        refine cN_iC (w2 := fun u => wC G o f st tb tn nu bi si kp g ((qtr f, sc f (qtr f), ring f, D.1.2.2.2.1, D.1.2.2.2.2), D.2)) S0 hG hA h hl.1 (ws_ok (rin8 _ (List.mem_of_getElem? (i := 20) rfl))) (rin2 _ (List.mem_of_getElem? (i := 3) rfl)) (rin8 _ (List.mem_of_getElem? (i := 18) rfl)) (rin8 _ (List.mem_of_getElem? (i := 19) rfl)) (host := "ComposedInterval") (List.mem_of_getElem? (i := 50) rfl) kdS_X3_dueOf (c_X3_dueOf (a := aP o) (f := f) (q := qtr f) (sp := sc f (qtr f)) (rg := ring f) (wd := D.1.2.2.2.1) (it := D.1.2.2.2.2) x8 hI rfl rfl rfl) ⟨rfl, rfl, by decide, by decide, Nat.le_refl _, Nat.le_refl _⟩ rfl 3 1 rfl rfl [1, 2, 3, 4, 5, 6, 7, 8, 9, 10, 11, 12, 13, 14, 15, 16] (by decide) rfl rfl rfl (Nat.le_of_ble_eq_true rfl) dX10_of_166 (fun _ H1 hk hP1 => WX.back h [1, 2, 3, 4, 5, 6, 7, 8, 9, 10, 11, 12, 13, 14, 15, 16] rfl hk hP1 (fit_same rfl)) (fun _ => rfl) (fun r u H locs hq h => ?_)
        obtain rfl := hq
        refine cO_iC (w2 := fun _ => wC G o f st tb tn nu bi si kp g ((qtr f, sc f (qtr f), ring f, D.1.2.2.2.1, D.1.2.2.2.2), D.2)) S0 hG hA h hl.1 kw_RX10_134_RX1 (rin16 _ (List.mem_of_getElem? (i := 0) rfl)) kdG_walks (c_X1_walks (b := o 15) (q0 := 14) (ci := 1) (a := aP o) (f := f) (q := qtr f) (sp := sc f (qtr f)) (rg := ring f) (wd := D.1.2.2.2.1) (it := D.1.2.2.2.2) rfl rfl x8) ⟨rfl, rfl, by decide, by decide, Nat.le_refl _, Nat.le_refl _⟩ rfl 1 15 rfl rfl [1, 2, 3, 4, 5, 6, 7, 8, 9, 10, 11, 12, 13, 14, 15, 16] (by decide) rfl rfl rfl (Nat.le_of_ble_eq_true rfl) dX10_of_169 (fun _ H1 hk hP1 => WX.back h [1, 2, 3, 4, 5, 6, 7, 8, 9, 10, 11, 12, 13, 14, 15, 16] rfl hk hP1 (fit_same rfl)) (fun _ => rfl) (fun r u H locs hq h => ?_)
        obtain rfl := hq
        exact hret _ (st, ((qtr f, sc f (qtr f), ring f, D.1.2.2.2.1, D.1.2.2.2.2), D.2)) _ _ _ _ (Or.inl ⟨⟨b2, by omega, by omega⟩, by unfold ofV; rw [e23, nt_nI jx2]; show _ = nI (walk f jx); unfold walk; rw [k153]; rfl, rfl⟩) h dX10_of_172
      ·
        rw [k153]
        refine lv_aload_n hx hb dX10_of_156 rfl (lv_at hl 0 rfl) ?_
        refine gC_present S0 hG h dX10_of_157 ?_
        refine lv_iload_n hx hb dX10_of_160 rfl (lv_at hl 1 rfl) ?_
        refine lv_aload_n hx hb dX10_of_161 rfl (lv_at hl 0 rfl) ?_
        refine gC_present S0 hG h dX10_of_162 ?_
        refine lv_iload_n hx hb dX10_of_165 rfl (lv_at hl 1 rfl) ?_
        refine cN_iC (w2 := fun u => wC G o f st tb tn nu bi si kp g ((qtr f, sc f (qtr f), ring f, D.1.2.2.2.1, D.1.2.2.2.2), D.2)) S0 hG hA h hl.1 (ws_ok (rin8 _ (List.mem_of_getElem? (i := 20) rfl))) (rin2 _ (List.mem_of_getElem? (i := 3) rfl)) (rin8 _ (List.mem_of_getElem? (i := 18) rfl)) (rin8 _ (List.mem_of_getElem? (i := 19) rfl)) (host := "ComposedInterval") (List.mem_of_getElem? (i := 50) rfl) kdS_X3_dueOf (c_X3_dueOf (a := aP o) (f := f) (q := qtr f) (sp := sc f (qtr f)) (rg := ring f) (wd := D.1.2.2.2.1) (it := D.1.2.2.2.2) x8 hI rfl rfl rfl) ⟨rfl, rfl, by decide, by decide, Nat.le_refl _, Nat.le_refl _⟩ rfl 3 1 rfl rfl [1, 2, 3, 4, 5, 6, 7, 8, 9, 10, 11, 12, 13, 14, 15, 16] (by decide) rfl rfl rfl (Nat.le_of_ble_eq_true rfl) dX10_of_166 (fun _ H1 hk hP1 => WX.back h [1, 2, 3, 4, 5, 6, 7, 8, 9, 10, 11, 12, 13, 14, 15, 16] rfl hk hP1 (fit_same rfl)) (fun _ => rfl) (fun r u H locs hq h => ?_)
        obtain rfl := hq
        refine cO_iC (w2 := fun _ => wC G o f st tb tn nu bi si kp g ((qtr f, sc f (qtr f), ring f, D.1.2.2.2.1, D.1.2.2.2.2), D.2)) S0 hG hA h hl.1 kw_RX10_134_RX6 (rin16 _ (List.mem_of_getElem? (i := 0) rfl)) kdG_walks (c_X2_walks (b := o 16) (q0 := 15) (ci := 6) (a := aP o) (f := f) (q := qtr f) (sp := sc f (qtr f)) (rg := ring f) (wd := D.1.2.2.2.1) (it := D.1.2.2.2.2) rfl rfl x8 hI rfl) ⟨rfl, rfl, by decide, by decide, Nat.le_refl _, Nat.le_refl _⟩ rfl 6 16 rfl rfl [1, 2, 3, 4, 5, 6, 7, 8, 9, 10, 11, 12, 13, 14, 15, 16] (by decide) rfl rfl rfl (Nat.le_of_ble_eq_true rfl) dX10_of_169 (fun _ H1 hk hP1 => WX.back h [1, 2, 3, 4, 5, 6, 7, 8, 9, 10, 11, 12, 13, 14, 15, 16] rfl hk hP1 (fit_same rfl)) (fun _ => rfl) (fun r u H locs hq h => ?_)
        obtain rfl := hq
        exact hret _ (st, ((qtr f, sc f (qtr f), ring f, D.1.2.2.2.1, D.1.2.2.2.2), D.2)) _ _ _ _ (Or.inl ⟨⟨b2, by omega, by omega⟩, by unfold ofV; rw [e23, nt_nI jx2]; show _ = nI (walk f jx); unfold walk; rw [k153]; rfl, rfl⟩) h dX10_of_172
    ·
      refine i_swIn hx hb e23 (off := 150) (tgt := 173) dX10_of_23 (by decide) (by decide) rfl (by decide) ?_
      refine lv_aload_n hx hb dX10_of_173 rfl (lv_at hl 0 rfl) ?_
      refine gC_present S0 hG h dX10_of_174 ?_
      refine lv_iload_n hx hb dX10_of_177 rfl (lv_at hl 1 rfl) ?_
      refine cN_rC (w2 := fun u => wC G o f st tb tn nu bi si kp g ((qtr f, sc f (qtr f), ring f, D.1.2.2.2.1, D.1.2.2.2.2), D.2)) S0 hG hA h hl.1 (ws_ok (rin9 _ (List.mem_of_getElem? (i := 0) rfl))) (rin2 _ (List.mem_of_getElem? (i := 3) rfl)) (rin8 _ (List.mem_of_getElem? (i := 22) rfl)) (rin8 _ (List.mem_of_getElem? (i := 23) rfl)) (host := "ComposedInterval") (List.mem_of_getElem? (i := 52) rfl) kdS_X3_guest (c_X3_guest (a := aP o) (f := f) (q := qtr f) (sp := sc f (qtr f)) (rg := ring f) (wd := D.1.2.2.2.1) (it := D.1.2.2.2.2) x8 hI) ⟨rfl, rfl, by decide, by decide, Nat.le_refl _, Nat.le_refl _⟩ rfl 3 1 rfl rfl [1, 2, 3, 4, 5, 6, 7, 8, 9, 10, 11, 12, 13, 14, 15, 16] (by decide) rfl rfl rfl (Nat.le_of_ble_eq_true rfl) dX10_of_178 (fun _ H1 hk hP1 => WX.back h [1, 2, 3, 4, 5, 6, 7, 8, 9, 10, 11, 12, 13, 14, 15, 16] rfl hk hP1 (fit_same rfl)) (fun _ => rfl) (fun u H locs hq h => ?_)
      rcases (show its f jx 0 = 0 ∨ its f jx 0 = 1 ∨ its f jx 0 = 2 ∨ its f jx 0 = 3 ∨ its f jx 0 = 4 ∨ its f jx 0 = 5 by omega) with k178 | k178 | k178 | k178 | k178 | k178
      ·
        rw [k178]
        refine cV_iC (w2 := fun _ => wC G o f st tb tn nu bi si kp g ((qtr f, sc f (qtr f), ring f, D.1.2.2.2.1, D.1.2.2.2.2), D.2)) S0 hG hA h hl.1 kw_RX10_140 kdV_X4_spoils (c_X4_spoils (b := o 11) (a := aP o) (f := f) (q := qtr f) (sp := sc f (qtr f)) (rg := ring f) (wd := D.1.2.2.2.1) (it := D.1.2.2.2.2)) ⟨rfl, rfl, by decide, by decide, Nat.le_refl _, Nat.le_refl _⟩ rfl 4 11 rfl rfl [1, 2, 3, 4, 5, 6, 7, 8, 9, 10, 11, 12, 13, 14, 15, 16] (by decide) rfl rfl rfl (Nat.le_of_ble_eq_true rfl) dX10_of_181 (fun _ H1 hk hP1 => WX.back h [1, 2, 3, 4, 5, 6, 7, 8, 9, 10, 11, 12, 13, 14, 15, 16] rfl hk hP1 (fit_same rfl)) (fun _ => rfl) (fun r u H locs hq h => ?_)
        obtain rfl := hq
        exact hret _ (st, ((qtr f, sc f (qtr f), ring f, D.1.2.2.2.1, D.1.2.2.2.2), D.2)) _ _ _ _ (Or.inl ⟨⟨b2, by omega, by omega⟩, by unfold ofV; rw [e23, nt_nI jx2]; show _ = nI (spoilK (its f jx 0)); rw [k178]; rfl, rfl⟩) h dX10_of_184
      ·
        rw [k178]
        refine cO_iC (w2 := fun _ => wC G o f st tb tn nu bi si kp g ((qtr f, sc f (qtr f), ring f, D.1.2.2.2.1, D.1.2.2.2.2), D.2)) S0 hG hA h hl.1 kw_RX10_140_RX2 (rin17 _ (List.mem_of_getElem? (i := 5) rfl)) kdG_spoils (c_X2_spoils (b := o 12) (q0 := 11) (ci := 2) (a := aP o) (f := f) (q := qtr f) (sp := sc f (qtr f)) (rg := ring f) (wd := D.1.2.2.2.1) (it := D.1.2.2.2.2) rfl rfl) ⟨rfl, rfl, by decide, by decide, Nat.le_refl _, Nat.le_refl _⟩ rfl 2 12 rfl rfl [1, 2, 3, 4, 5, 6, 7, 8, 9, 10, 11, 12, 13, 14, 15, 16] (by decide) rfl rfl rfl (Nat.le_of_ble_eq_true rfl) dX10_of_181 (fun _ H1 hk hP1 => WX.back h [1, 2, 3, 4, 5, 6, 7, 8, 9, 10, 11, 12, 13, 14, 15, 16] rfl hk hP1 (fit_same rfl)) (fun _ => rfl) (fun r u H locs hq h => ?_)
        obtain rfl := hq
        exact hret _ (st, ((qtr f, sc f (qtr f), ring f, D.1.2.2.2.1, D.1.2.2.2.2), D.2)) _ _ _ _ (Or.inl ⟨⟨b2, by omega, by omega⟩, by unfold ofV; rw [e23, nt_nI jx2]; show _ = nI (spoilK (its f jx 0)); rw [k178]; rfl, rfl⟩) h dX10_of_184
      ·
        rw [k178]
        refine cO_iC (w2 := fun _ => wC G o f st tb tn nu bi si kp g ((qtr f, sc f (qtr f), ring f, D.1.2.2.2.1, D.1.2.2.2.2), D.2)) S0 hG hA h hl.1 kw_RX10_140_RX8 (rin17 _ (List.mem_of_getElem? (i := 5) rfl)) kdG_spoils (c_X8_spoils (b := o 13) (a := aP o) (f := f) (q := qtr f) (sp := sc f (qtr f)) (rg := ring f) (wd := D.1.2.2.2.1) (it := D.1.2.2.2.2)) ⟨rfl, rfl, by decide, by decide, Nat.le_refl _, Nat.le_refl _⟩ rfl 8 13 rfl rfl [1, 2, 3, 4, 5, 6, 7, 8, 9, 10, 11, 12, 13, 14, 15, 16] (by decide) rfl rfl rfl (Nat.le_of_ble_eq_true rfl) dX10_of_181 (fun _ H1 hk hP1 => WX.back h [1, 2, 3, 4, 5, 6, 7, 8, 9, 10, 11, 12, 13, 14, 15, 16] rfl hk hP1 (fit_same rfl)) (fun _ => rfl) (fun r u H locs hq h => ?_)
        obtain rfl := hq
        exact hret _ (st, ((qtr f, sc f (qtr f), ring f, D.1.2.2.2.1, D.1.2.2.2.2), D.2)) _ _ _ _ (Or.inl ⟨⟨b2, by omega, by omega⟩, by unfold ofV; rw [e23, nt_nI jx2]; show _ = nI (spoilK (its f jx 0)); rw [k178]; rfl, rfl⟩) h dX10_of_184
      ·
        rw [k178]
        refine cO_iC (w2 := fun _ => wC G o f st tb tn nu bi si kp g ((qtr f, sc f (qtr f), ring f, D.1.2.2.2.1, D.1.2.2.2.2), D.2)) S0 hG hA h hl.1 kw_RX10_140_RX5 (rin17 _ (List.mem_of_getElem? (i := 5) rfl)) kdG_spoils (c_X5_spoils (b := o 14) (a := aP o) (f := f) (q := qtr f) (sp := sc f (qtr f)) (rg := ring f) (wd := D.1.2.2.2.1) (it := D.1.2.2.2.2)) ⟨rfl, rfl, by decide, by decide, Nat.le_refl _, Nat.le_refl _⟩ rfl 5 14 rfl rfl [1, 2, 3, 4, 5, 6, 7, 8, 9, 10, 11, 12, 13, 14, 15, 16] (by decide) rfl rfl rfl (Nat.le_of_ble_eq_true rfl) dX10_of_181 (fun _ H1 hk hP1 => WX.back h [1, 2, 3, 4, 5, 6, 7, 8, 9, 10, 11, 12, 13, 14, 15, 16] rfl hk hP1 (fit_same rfl)) (fun _ => rfl) (fun r u H locs hq h => ?_)
        obtain rfl := hq
        exact hret _ (st, ((qtr f, sc f (qtr f), ring f, D.1.2.2.2.1, D.1.2.2.2.2), D.2)) _ _ _ _ (Or.inl ⟨⟨b2, by omega, by omega⟩, by unfold ofV; rw [e23, nt_nI jx2]; show _ = nI (spoilK (its f jx 0)); rw [k178]; rfl, rfl⟩) h dX10_of_184
      ·
        rw [k178]
        refine cO_iC (w2 := fun _ => wC G o f st tb tn nu bi si kp g ((qtr f, sc f (qtr f), ring f, D.1.2.2.2.1, D.1.2.2.2.2), D.2)) S0 hG hA h hl.1 kw_RX10_140_RX1 (rin17 _ (List.mem_of_getElem? (i := 5) rfl)) kdG_spoils (c_X1_spoils (b := o 15) (q0 := 14) (ci := 1) (a := aP o) (f := f) (q := qtr f) (sp := sc f (qtr f)) (rg := ring f) (wd := D.1.2.2.2.1) (it := D.1.2.2.2.2) rfl rfl) ⟨rfl, rfl, by decide, by decide, Nat.le_refl _, Nat.le_refl _⟩ rfl 1 15 rfl rfl [1, 2, 3, 4, 5, 6, 7, 8, 9, 10, 11, 12, 13, 14, 15, 16] (by decide) rfl rfl rfl (Nat.le_of_ble_eq_true rfl) dX10_of_181 (fun _ H1 hk hP1 => WX.back h [1, 2, 3, 4, 5, 6, 7, 8, 9, 10, 11, 12, 13, 14, 15, 16] rfl hk hP1 (fit_same rfl)) (fun _ => rfl) (fun r u H locs hq h => ?_)
        obtain rfl := hq
        exact hret _ (st, ((qtr f, sc f (qtr f), ring f, D.1.2.2.2.1, D.1.2.2.2.2), D.2)) _ _ _ _ (Or.inl ⟨⟨b2, by omega, by omega⟩, by unfold ofV; rw [e23, nt_nI jx2]; show _ = nI (spoilK (its f jx 0)); rw [k178]; rfl, rfl⟩) h dX10_of_184
      ·
        rw [k178]
        refine cO_iC (w2 := fun _ => wC G o f st tb tn nu bi si kp g ((qtr f, sc f (qtr f), ring f, D.1.2.2.2.1, D.1.2.2.2.2), D.2)) S0 hG hA h hl.1 kw_RX10_140_RX6 (rin17 _ (List.mem_of_getElem? (i := 5) rfl)) kdG_spoils (c_X6_spoils (b := o 16) (q0 := 15) (ci := 6) (a := aP o) (f := f) (q := qtr f) (sp := sc f (qtr f)) (rg := ring f) (wd := D.1.2.2.2.1) (it := D.1.2.2.2.2) rfl rfl) ⟨rfl, rfl, by decide, by decide, Nat.le_refl _, Nat.le_refl _⟩ rfl 6 16 rfl rfl [1, 2, 3, 4, 5, 6, 7, 8, 9, 10, 11, 12, 13, 14, 15, 16] (by decide) rfl rfl rfl (Nat.le_of_ble_eq_true rfl) dX10_of_181 (fun _ H1 hk hP1 => WX.back h [1, 2, 3, 4, 5, 6, 7, 8, 9, 10, 11, 12, 13, 14, 15, 16] rfl hk hP1 (fit_same rfl)) (fun _ => rfl) (fun r u H locs hq h => ?_)
        obtain rfl := hq
        exact hret _ (st, ((qtr f, sc f (qtr f), ring f, D.1.2.2.2.1, D.1.2.2.2.2), D.2)) _ _ _ _ (Or.inl ⟨⟨b2, by omega, by omega⟩, by unfold ofV; rw [e23, nt_nI jx2]; show _ = nI (spoilK (its f jx 0)); rw [k178]; rfl, rfl⟩) h dX10_of_184
    ·
      refine lv_tableOut hx hb (tgt := 185) dX10_of_23 (by omega) (by decide) ?_
      refine lv_aload_n hx hb dX10_of_185 rfl (lv_at hl 0 rfl) ?_
      refine lv_ldc (v := -1000000001) hx hb S0.2.2.2.1 (S0.2.2.2.2 _ (rin6 _ (List.mem_of_getElem? (i := 6) rfl))) dX10_of_186 ?_
      refine cV_i0 S0 hG hA h hl.1 kw_RX10_58 kdV_X10_tell (c_X10_tell (k := 0) (by decide) (by decide)) ⟨rfl, rfl, by decide, by decide, Nat.le_refl _, Nat.le_refl _⟩ rfl 10 0 rfl rfl rfl (Nat.le_of_ble_eq_true rfl) dX10_of_188 (fun _ => rfl) (fun r u H locs hq h => ?_)
      obtain rfl := hq
      exact hret _ (bump st 0, ((qtr f, sc f (qtr f), ring f, D.1.2.2.2.1, D.1.2.2.2.2), D.2)) _ _ _ _ (Or.inr ⟨fun q9 => by have := q9.2.1; have := q9.2.2; omega, rfl, rfl⟩) h dX10_of_191
