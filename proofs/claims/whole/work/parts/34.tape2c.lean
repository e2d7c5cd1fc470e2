variable {G : GT} {l : Launch} {t a : Nat → Nat} {tb : Nat → Nat} {tn tk ts tx tv : Nat} {f : Nat → Nat} {q sp : Nat} {rg : Int32} {wd : Nat → Nat} {it : Nat}
theorem kw_RX9_31 : GoodIn wsL_law (wsV RX9 31 RX9 yX9_advance (WS yX9_advance cX9_advance 2 none)) := gV (rin29 _ (List.mem_of_getElem? (i := 2) rfl)) (rin29 _ (List.mem_of_getElem? (i := 3) rfl)) (rin29 _ (List.mem_of_getElem? (i := 4) rfl)) (rin1 _ (List.mem_of_getElem? (i := 15) rfl)) (rin29 _ (List.mem_of_getElem? (i := 5) rfl))
theorem kw_RX9_62 : GoodIn wsL_law (wsV RX9 62 RX9 yX9_isNumber (WS yX9_isNumber cX9_isNumber 3 (some .boolean))) := gV (rin32 _ (List.mem_of_getElem? (i := 2) rfl)) (rin32 _ (List.mem_of_getElem? (i := 3) rfl)) (rin32 _ (List.mem_of_getElem? (i := 4) rfl)) (rin1 _ (List.mem_of_getElem? (i := 15) rfl)) (rin32 _ (List.mem_of_getElem? (i := 5) rfl))
theorem kdV_X9_advance : yX9_advance.cls = RX9 ∧ yX9_advance.cls ≠ "java/lang/invoke/MethodHandle" ∧ yX9_advance.cls ≠ "java/lang/invoke/VarHandle" ∧ (parseMethodDescriptor yX9_advance.desc).map (fun d => d.parameters.length) = some 0 := ⟨rfl, by decide +kernel, by decide +kernel, by decide +kernel⟩
theorem kdV_X9_isNumber : yX9_isNumber.cls = RX9 ∧ yX9_isNumber.cls ≠ "java/lang/invoke/MethodHandle" ∧ yX9_isNumber.cls ≠ "java/lang/invoke/VarHandle" ∧ (parseMethodDescriptor yX9_isNumber.desc).map (fun d => d.parameters.length) = some 2 := ⟨rfl, by decide +kernel, by decide +kernel, by decide +kernel⟩
set_option maxHeartbeats 4000000 in
set_option maxRecDepth 100000 in
theorem c_X9_takeScore {z : Nat} (hT : ∀ i, tb i < 256) (htn : tn ≤ 120) (hz : z ≤ tn) : Ki G l yX9_takeScore cX9_takeScore 3 (some .boolean) (RM 3 61) [.ref (t 0), .ref (a 0)] (wZ G t a tb tn z f q sp rg wd it) (fun u : Row × Nat => wZ G t a tb tn u.2 u.1 q sp rg wd it) (fun r u => ((r = nI 1 ∧ Two tb tn f 2 5 11 z True u.1 u.2) ∨ (r = nI 0 ∧ Two tb tn f 2 5 11 z False u.1 u.2)) ∧ u.2 ≤ tn) := by
  refine Ki.ofz (by decide) (Nat.le_of_ble_eq_true rfl) ?_
  intro p e s m args below meth c A Q ls hx hb S0 hG hA h hret hl
  have S0 : CF p m c cX9_takeScore 3 s args RX9 := S0
  have hl : lv_has ls 3 [(0, .ref (t 0)), (1, .ref (a 0))] := hl
  refine lv_aload_n hx hb dX9_takeScore_0 rfl (lv_at hl 0 rfl) ?_
  refine cV_v0 S0 hG hA h hl.1 kw_RX9_31 kdV_X9_advance (c_X9_advance hT htn (tkE_le hz)) ⟨rfl, rfl, by decide, by decide, Nat.le_refl _, Nat.le_refl _⟩ rfl 9 0 rfl rfl rfl (Nat.le_of_ble_eq_true rfl) dX9_takeScore_1 (fun _ => rfl) (fun u H locs hq h => ?_)
  have h : WX G A s H locs (wZ G t a tb tn (nx tb tn z) f q sp rg wd it) := h
  refine lv_aload_n hx hb dX9_takeScore_4 rfl (lv_at hl 0 rfl) ?_
  refine lv_iconst (v := nI 0) hx hb dX9_takeScore_5 (by decide) ?_
  refine lv_iconst (v := nI 5) hx hb dX9_takeScore_6 (by decide) ?_
  refine cV_i0 S0 hG hA h hl.1 kw_RX9_62 kdV_X9_isNumber (c_X9_isNumber (by omega) (by omega) rfl rfl) ⟨rfl, rfl, by decide, by decide, Nat.le_refl _, Nat.le_refl _⟩ rfl 9 0 rfl rfl rfl (Nat.le_of_ble_eq_true rfl) dX9_takeScore_7 (fun _ => rfl) (fun r u H locs hq h => ?_)
  rcases hq with ⟨rfl, b7⟩ | ⟨rfl, b7⟩
  ·
    have v7 := tkV_D b7.1
    have m7 := b7.2.2
    refine n_zne hx hb (by decide) (tgt := 15) dX9_takeScore_10 (by decide) (fun _ => ?_) (fun q => absurd q (by decide))
    refine lv_aload_n hx hb dX9_takeScore_15 rfl (lv_at hl 0 rfl) ?_
    refine gT_value S0 hG h dX9_takeScore_16 ?_
    refine lv_istore_n hx hb dX9_takeScore_19 rfl hl (by decide) rfl (fun ls hl => ?_)
    refine lv_aload_n hx hb dX9_takeScore_20 rfl (lv_at hl 1 rfl) ?_
    refine cV_v0 S0 hG hA h hl.1 kw_RX9_31 kdV_X9_advance (c_X9_advance hT htn (tkE_le (nx_le hz))) ⟨rfl, rfl, by decide, by decide, Nat.le_refl _, Nat.le_refl _⟩ rfl 9 0 rfl rfl rfl (Nat.le_of_ble_eq_true rfl) dX9_takeScore_21 (fun _ => rfl) (fun u H locs hq h => ?_)
    have h : WX G A s H locs (wZ G t a tb tn (nx tb tn (nx tb tn z)) f q sp rg wd it) := h
    refine lv_aload_n hx hb dX9_takeScore_24 rfl (lv_at hl 1 rfl) ?_
    refine lv_iconst (v := nI 0) hx hb dX9_takeScore_25 (by decide) ?_
    refine lv_bipush (v := nI 11) hx hb dX9_takeScore_26 (by decide) ?_
    refine cV_i0 S0 hG hA h hl.1 kw_RX9_62 kdV_X9_isNumber (c_X9_isNumber (by omega) (by omega) rfl rfl) ⟨rfl, rfl, by decide, by decide, Nat.le_refl _, Nat.le_refl _⟩ rfl 9 0 rfl rfl rfl (Nat.le_of_ble_eq_true rfl) dX9_takeScore_28 (fun _ => rfl) (fun r u H locs hq h => ?_)
    rcases hq with ⟨rfl, b28⟩ | ⟨rfl, b28⟩
    ·
      have v28 := tkV_D b28.1
      have m28 := b28.2.2
      refine n_zne hx hb (by decide) (tgt := 36) dX9_takeScore_31 (by decide) (fun _ => ?_) (fun q => absurd q (by decide))
      refine lv_aload_n hx hb dX9_takeScore_36 rfl (lv_at hl 2 rfl) ?_
      refine gTF_score S0 hG h dX9_takeScore_37 ?_
      refine lv_iload_n hx hb dX9_takeScore_40 rfl (lv_at hl 0 rfl) ?_
      refine lv_aload_n hx hb dX9_takeScore_41 rfl (lv_at hl 1 rfl) ?_
      refine gT_value S0 hG h dX9_takeScore_42 ?_
      refine sT_score S0 hG h (by rw [v7]; omega) dX9_takeScore_45 (fun H locs h => ?_)
      refine lv_aload_n hx hb dX9_takeScore_46 rfl (lv_at hl 1 rfl) ?_
      refine cV_v0 S0 hG hA h hl.1 kw_RX9_31 kdV_X9_advance (c_X9_advance hT htn (tkE_le (nx_le (nx_le hz)))) ⟨rfl, rfl, by decide, by decide, Nat.le_refl _, Nat.le_refl _⟩ rfl 9 0 rfl rfl rfl (Nat.le_of_ble_eq_true rfl) dX9_takeScore_47 (fun _ => rfl) (fun u H locs hq h => ?_)
      have h : WX G A s H locs (wZ G t a tb tn (nx tb tn (nx tb tn (nx tb tn z))) (va_up f (2 + tkV tb tn (nx tb tn z)) (tkV tb tn (nx tb tn (nx tb tn z)))) q sp rg wd it) := h
      refine lv_iconst (v := nI 1) hx hb dX9_takeScore_50 (by decide) ?_
      rw [v7, v28] at h
      exact hret _ (va_up f (2 + val tb tn (nx tb tn z)) (val tb tn (nx tb tn (nx tb tn z))), (nx tb tn (nx tb tn (nx tb tn z)))) _ _ _ _ (by decide) ⟨Or.inl ⟨rfl, Or.inr (Or.inr ⟨b7, b28, trivial, rfl, rfl⟩)⟩, (nx_le (nx_le (nx_le hz)))⟩ h dX9_takeScore_51
    ·
      refine n_zne hx hb (by decide) (tgt := 36) dX9_takeScore_31 (by decide) (fun q => absurd q (by decide)) (fun _ => ?_)
      refine lv_iconst (v := nI 0) hx hb dX9_takeScore_34 (by decide) ?_
      exact hret _ (f, (nx tb tn (nx tb tn z))) _ _ _ _ (by decide) ⟨Or.inr ⟨rfl, Or.inr (Or.inl ⟨b7, b28, fun q => q, rfl⟩)⟩, (nx_le (nx_le hz))⟩ h dX9_takeScore_35
  ·
    refine n_zne hx hb (by decide) (tgt := 15) dX9_takeScore_10 (by decide) (fun q => absurd q (by decide)) (fun _ => ?_)
    refine lv_iconst (v := nI 0) hx hb dX9_takeScore_13 (by decide) ?_
    exact hret _ (f, (nx tb tn z)) _ _ _ _ (by decide) ⟨Or.inr ⟨rfl, Or.inl ⟨b7, fun q => q, rfl⟩⟩, (nx_le hz)⟩ h dX9_takeScore_14
