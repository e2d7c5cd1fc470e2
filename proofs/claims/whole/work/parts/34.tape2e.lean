variable {G : GT} {l : Launch} {t a : Nat → Nat} {tb : Nat → Nat} {tn tk ts tx tv : Nat} {f : Nat → Nat} {q sp : Nat} {rg : Int32} {wd : Nat → Nat} {it : Nat}
theorem kw_RX9_40 : GoodIn wsL_law (wsV RX9 40 RX9 yX9_isWord (WS yX9_isWord cX9_isWord 3 (some .boolean))) := gV (rin29 _ (List.mem_of_getElem? (i := 17) rfl)) (rin29 _ (List.mem_of_getElem? (i := 18) rfl)) (rin29 _ (List.mem_of_getElem? (i := 19) rfl)) (rin1 _ (List.mem_of_getElem? (i := 15) rfl)) (rin29 _ (List.mem_of_getElem? (i := 20) rfl))
theorem kdV_X9_isWord : yX9_isWord.cls = RX9 ∧ yX9_isWord.cls ≠ "java/lang/invoke/MethodHandle" ∧ yX9_isWord.cls ≠ "java/lang/invoke/VarHandle" ∧ (parseMethodDescriptor yX9_isWord.desc).map (fun d => d.parameters.length) = some 1 := ⟨rfl, by decide +kernel, by decide +kernel, by decide +kernel⟩
theorem kdS_X3_admit : yX3_admit.cls ≠ "java/lang/invoke/MethodHandle" ∧ yX3_admit.cls ≠ "java/lang/invoke/VarHandle" ∧ (parseMethodDescriptor yX3_admit.desc).map (fun d => d.parameters.length) = some 3 := ⟨by decide +kernel, by decide +kernel, by decide +kernel⟩
set_option maxHeartbeats 4000000 in
set_option maxRecDepth 100000 in
theorem c_X9_takePerson {k : Nat} (hI : f 1 ≤ 8) {z : Nat} (hT : ∀ i, tb i < 256) (htn : tn ≤ 120) (hz : z ≤ tn) : Ki G l yX9_takePerson cX9_takePerson 5 (some .boolean) (RM 7 128) [.ref (t 0), .ref (a 0), .int (nI k)] (wZ G t a tb tn z f q sp rg wd it) (fun u : Row × Nat => wZ G t a tb tn u.2 u.1 q sp rg wd it) (fun r u => ((r = nI 1 ∧ Per tb tn f k z True u.1 u.2) ∨ (r = nI 0 ∧ Per tb tn f k z False u.1 u.2)) ∧ u.2 ≤ tn) := by
  refine Ki.ofz (by decide) (Nat.le_of_ble_eq_true rfl) ?_
  intro p e s m args below meth c A Q ls hx hb S0 hG hA h hret hl
  have S0 : CF p m c cX9_takePerson 5 s args RX9 := S0
  have hl : lv_has ls 5 [(0, .ref (t 0)), (1, .ref (a 0)), (2, .int (nI k))] := hl
  refine lv_aload_n hx hb dX9_takePerson_0 rfl (lv_at hl 1 rfl) ?_
  refine gTF_people S0 hG h dX9_takePerson_1 ?_
  refine lv_bipush (v := nI 8) hx hb dX9_takePerson_4 (by decide) ?_
  refine n_clt hx hb (by omega) (by omega) (tgt := 11) dX9_takePerson_6 (by decide) (fun c6 => ?_) (fun c6 => ?_)
  ·
    refine lv_aload_n hx hb dX9_takePerson_11 rfl (lv_at hl 0 rfl) ?_
    refine cV_v0 S0 hG hA h hl.1 kw_RX9_31 kdV_X9_advance (c_X9_advance hT htn (tkE_le hz)) ⟨rfl, rfl, by decide, by decide, Nat.le_refl _, Nat.le_refl _⟩ rfl 9 0 rfl rfl rfl (Nat.le_of_ble_eq_true rfl) dX9_takePerson_12 (fun _ => rfl) (fun u H locs hq h => ?_)
    have h : WX G A s H locs (wZ G t a tb tn (nx tb tn z) f q sp rg wd it) := h
    refine lv_aload_n hx hb dX9_takePerson_15 rfl (lv_at hl 0 rfl) ?_
    refine lv_iconst (v := nI 0) hx hb dX9_takePerson_16 (by decide) ?_
    refine lv_bipush (v := nI 11) hx hb dX9_takePerson_17 (by decide) ?_
    refine cV_i0 S0 hG hA h hl.1 kw_RX9_62 kdV_X9_isNumber (c_X9_isNumber (by omega) (by omega) rfl rfl) ⟨rfl, rfl, by decide, by decide, Nat.le_refl _, Nat.le_refl _⟩ rfl 9 0 rfl rfl rfl (Nat.le_of_ble_eq_true rfl) dX9_takePerson_19 (fun _ => rfl) (fun r u H locs hq h => ?_)
    rcases hq with ⟨rfl, b19⟩ | ⟨rfl, b19⟩
    ·
      have v19 := tkV_D b19.1
      refine n_zne hx hb (by decide) (tgt := 27) dX9_takePerson_22 (by decide) (fun _ => ?_) (fun q => absurd q (by decide))
      refine lv_aload_n hx hb dX9_takePerson_27 rfl (lv_at hl 0 rfl) ?_
      refine gT_value S0 hG h dX9_takePerson_28 ?_
      refine lv_istore_n hx hb dX9_takePerson_31 rfl hl (by decide) rfl (fun ls hl => ?_)
      refine lv_iconst (v := nI 1) hx hb dX9_takePerson_32 (by decide) ?_
      refine lv_istore hx hb dX9_takePerson_33 hl (by decide) rfl (fun ls hl => ?_)
      refine lv_aload_n hx hb dX9_takePerson_35 rfl (lv_at hl 2 rfl) ?_
      refine cV_v0 S0 hG hA h hl.1 kw_RX9_31 kdV_X9_advance (c_X9_advance hT htn (tkE_le (nx_le hz))) ⟨rfl, rfl, by decide, by decide, Nat.le_refl _, Nat.le_refl _⟩ rfl 9 0 rfl rfl rfl (Nat.le_of_ble_eq_true rfl) dX9_takePerson_36 (fun _ => rfl) (fun u H locs hq h => ?_)
      have h : WX G A s H locs (wZ G t a tb tn (nx tb tn (nx tb tn z)) f q sp rg wd it) := h
      refine lv_aload_n hx hb dX9_takePerson_39 rfl (lv_at hl 2 rfl) ?_
      refine va_ldcS hx hb S0.2.2.2.1 (sR_8 hG) dX9_takePerson_40 ?_
      refine cV_i0 S0 hG hA h hl.1 kw_RX9_40 kdV_X9_isWord (c_X9_isWord (i := 8) (by decide) hT htn (nx_le (nx_le hz))) ⟨rfl, rfl, by decide, by decide, Nat.le_refl _, Nat.le_refl _⟩ rfl 9 0 rfl rfl rfl (Nat.le_of_ble_eq_true rfl) dX9_takePerson_42 (fun _ => rfl) (fun r u H locs hq h => ?_)
      rcases hq with ⟨rfl, b42⟩ | ⟨rfl, b42⟩
      ·
        have b42 : isW tb tn wQuick (nx tb tn (nx tb tn z)) := b42
        refine n_zeq hx hb (by decide) (tgt := 73) dX9_takePerson_45 (by decide) (fun q => absurd q (by decide)) (fun _ => ?_)
        refine lv_aload_n hx hb dX9_takePerson_48 rfl (lv_at hl 2 rfl) ?_
        refine cV_v0 S0 hG hA h hl.1 kw_RX9_31 kdV_X9_advance (c_X9_advance hT htn (tkE_le (nx_le (nx_le hz)))) ⟨rfl, rfl, by decide, by decide, Nat.le_refl _, Nat.le_refl _⟩ rfl 9 0 rfl rfl rfl (Nat.le_of_ble_eq_true rfl) dX9_takePerson_49 (fun _ => rfl) (fun u H locs hq h => ?_)
        have h : WX G A s H locs (wZ G t a tb tn (nx tb tn (nx tb tn (nx tb tn z))) f q sp rg wd it) := h
        refine lv_aload_n hx hb dX9_takePerson_52 rfl (lv_at hl 2 rfl) ?_
        refine lv_iconst (v := nI 1) hx hb dX9_takePerson_53 (by decide) ?_
        refine lv_iconst (v := nI 4) hx hb dX9_takePerson_54 (by decide) ?_
        refine cV_i0 S0 hG hA h hl.1 kw_RX9_62 kdV_X9_isNumber (c_X9_isNumber (by omega) (by omega) rfl rfl) ⟨rfl, rfl, by decide, by decide, Nat.le_refl _, Nat.le_refl _⟩ rfl 9 0 rfl rfl rfl (Nat.le_of_ble_eq_true rfl) dX9_takePerson_55 (fun _ => rfl) (fun r u H locs hq h => ?_)
        rcases hq with ⟨rfl, b55⟩ | ⟨rfl, b55⟩
        ·
          have v55 := tkV_D b55.1
          refine n_zne hx hb (by decide) (tgt := 63) dX9_takePerson_58 (by decide) (fun _ => ?_) (fun q => absurd q (by decide))
          refine lv_aload_n hx hb dX9_takePerson_63 rfl (lv_at hl 2 rfl) ?_
          refine gT_value S0 hG h dX9_takePerson_64 ?_
          refine lv_istore hx hb dX9_takePerson_67 hl (by decide) rfl (fun ls hl => ?_)
          refine lv_aload_n hx hb dX9_takePerson_69 rfl (lv_at hl 2 rfl) ?_
          refine cV_v0 S0 hG hA h hl.1 kw_RX9_31 kdV_X9_advance (c_X9_advance hT htn (tkE_le (nx_le (nx_le (nx_le hz))))) ⟨rfl, rfl, by decide, by decide, Nat.le_refl _, Nat.le_refl _⟩ rfl 9 0 rfl rfl rfl (Nat.le_of_ble_eq_true rfl) dX9_takePerson_70 (fun _ => rfl) (fun u H locs hq h => ?_)
          have h : WX G A s H locs (wZ G t a tb tn (nx tb tn (nx tb tn (nx tb tn (nx tb tn z)))) f q sp rg wd it) := h
          refine lv_aload_n hx hb dX9_takePerson_73 rfl (lv_at hl 3 rfl) ?_
          refine lv_iload_n hx hb dX9_takePerson_74 rfl (lv_at hl 4 rfl) ?_
          refine lv_iload_n hx hb dX9_takePerson_75 rfl (lv_at hl 1 rfl) ?_
          refine lv_iload hx hb dX9_takePerson_76 (lv_at hl 0 rfl) ?_
          refine cN_vC (w2 := fun _ => wZ G t a tb tn (nx tb tn (nx tb tn (nx tb tn (nx tb tn z)))) (adm f k (tkV tb tn (nx tb tn z)) (tkV tb tn (nx tb tn (nx tb tn (nx tb tn z))))) q sp rg wd it) S0 hG hA h hl.1 (ws_ok (rin14 _ (List.mem_of_getElem? (i := 14) rfl))) (rin2 _ (List.mem_of_getElem? (i := 3) rfl)) (rin14 _ (List.mem_of_getElem? (i := 12) rfl)) (rin14 _ (List.mem_of_getElem? (i := 13) rfl)) (host := "ComposedInterval") (List.mem_of_getElem? (i := 60) rfl) kdS_X3_admit (c_X3_admit c6) ⟨rfl, rfl, by decide, by decide, Nat.le_refl _, Nat.le_refl _⟩ rfl 3 2 rfl rfl [2, 3, 4, 5, 6, 7, 8, 9, 10, 11, 12, 13, 14, 15, 16, 17] (by decide) rfl rfl rfl (Nat.le_of_ble_eq_true rfl) dX9_takePerson_78 (fun _ H1 hk hP1 => WX.back h [2, 3, 4, 5, 6, 7, 8, 9, 10, 11, 12, 13, 14, 15, 16, 17] rfl hk hP1 fit_TF) (fun _ => rfl) (fun u H locs hq h => ?_)
          refine lv_iconst (v := nI 1) hx hb dX9_takePerson_81 (by decide) ?_
          rw [v19, v55] at h
          exact hret _ (adm f k (val tb tn (nx tb tn z)) (val tb tn (nx tb tn (nx tb tn (nx tb tn z)))), (nx tb tn (nx tb tn (nx tb tn (nx tb tn z))))) _ _ _ _ (by decide) ⟨Or.inl ⟨rfl, Or.inr (Or.inr (Or.inr (Or.inr ⟨c6, b19, b42, b55, trivial, rfl, rfl⟩)))⟩, (nx_le (nx_le (nx_le (nx_le hz))))⟩ h dX9_takePerson_82
        ·
          refine n_zne hx hb (by decide) (tgt := 63) dX9_takePerson_58 (by decide) (fun q => absurd q (by decide)) (fun _ => ?_)
          refine lv_iconst (v := nI 0) hx hb dX9_takePerson_61 (by decide) ?_
          exact hret _ (f, (nx tb tn (nx tb tn (nx tb tn z)))) _ _ _ _ (by decide) ⟨Or.inr ⟨rfl, Or.inr (Or.inr (Or.inr (Or.inl ⟨c6, b19, b42, b55, fun q => q, rfl⟩)))⟩, (nx_le (nx_le (nx_le hz)))⟩ h dX9_takePerson_62
      ·
        have b42 : ¬ isW tb tn wQuick (nx tb tn (nx tb tn z)) := b42
        refine n_zeq hx hb (by decide) (tgt := 73) dX9_takePerson_45 (by decide) (fun _ => ?_) (fun q => absurd q (by decide))
        refine lv_aload_n hx hb dX9_takePerson_73 rfl (lv_at hl 3 rfl) ?_
        refine lv_iload_n hx hb dX9_takePerson_74 rfl (lv_at hl 4 rfl) ?_
        refine lv_iload_n hx hb dX9_takePerson_75 rfl (lv_at hl 1 rfl) ?_
        refine lv_iload hx hb dX9_takePerson_76 (lv_at hl 0 rfl) ?_
        refine cN_vC (w2 := fun _ => wZ G t a tb tn (nx tb tn (nx tb tn z)) (adm f k (tkV tb tn (nx tb tn z)) 1) q sp rg wd it) S0 hG hA h hl.1 (ws_ok (rin14 _ (List.mem_of_getElem? (i := 14) rfl))) (rin2 _ (List.mem_of_getElem? (i := 3) rfl)) (rin14 _ (List.mem_of_getElem? (i := 12) rfl)) (rin14 _ (List.mem_of_getElem? (i := 13) rfl)) (host := "ComposedInterval") (List.mem_of_getElem? (i := 60) rfl) kdS_X3_admit (c_X3_admit c6) ⟨rfl, rfl, by decide, by decide, Nat.le_refl _, Nat.le_refl _⟩ rfl 3 2 rfl rfl [2, 3, 4, 5, 6, 7, 8, 9, 10, 11, 12, 13, 14, 15, 16, 17] (by decide) rfl rfl rfl (Nat.le_of_ble_eq_true rfl) dX9_takePerson_78 (fun _ H1 hk hP1 => WX.back h [2, 3, 4, 5, 6, 7, 8, 9, 10, 11, 12, 13, 14, 15, 16, 17] rfl hk hP1 fit_TF) (fun _ => rfl) (fun u H locs hq h => ?_)
        refine lv_iconst (v := nI 1) hx hb dX9_takePerson_81 (by decide) ?_
        rw [v19] at h
        exact hret _ (adm f k (val tb tn (nx tb tn z)) 1, (nx tb tn (nx tb tn z))) _ _ _ _ (by decide) ⟨Or.inl ⟨rfl, Or.inr (Or.inr (Or.inl ⟨c6, b19, b42, trivial, rfl, rfl⟩))⟩, (nx_le (nx_le hz))⟩ h dX9_takePerson_82
    ·
      refine n_zne hx hb (by decide) (tgt := 27) dX9_takePerson_22 (by decide) (fun q => absurd q (by decide)) (fun _ => ?_)
      refine lv_iconst (v := nI 0) hx hb dX9_takePerson_25 (by decide) ?_
      exact hret _ (f, (nx tb tn z)) _ _ _ _ (by decide) ⟨Or.inr ⟨rfl, Or.inr (Or.inl ⟨c6, b19, fun q => q, rfl⟩)⟩, (nx_le hz)⟩ h dX9_takePerson_26
  ·
    refine lv_iconst (v := nI 0) hx hb dX9_takePerson_9 (by decide) ?_
    exact hret _ (f, z) _ _ _ _ (by decide) ⟨Or.inr ⟨rfl, Or.inl ⟨by omega, fun q => q, rfl⟩⟩, hz⟩ h dX9_takePerson_10
