variable {G : GT} {l : Launch} {t a : Nat → Nat} {tb : Nat → Nat} {tn tk ts tx tv : Nat} {f : Nat → Nat} {q sp : Nat} {rg : Int32} {wd : Nat → Nat} {it : Nat}
set_option maxHeartbeats 4000000 in
set_option maxRecDepth 100000 in
theorem c_X9_takeBell {z : Nat} (hT : ∀ i, tb i < 256) (htn : tn ≤ 120) (hz : z ≤ tn) : Ki G l yX9_takeBell cX9_takeBell 3 (some .boolean) (RM 3 61) [.ref (t 0), .ref (a 0)] (wZ G t a tb tn z f q sp rg wd it) (fun u : Row × Nat => wZ G t a tb tn u.2 u.1 q sp rg wd it) (fun r u => ((r = nI 1 ∧ Two tb tn f 8 2 47 z True u.1 u.2) ∨ (r = nI 0 ∧ Two tb tn f 8 2 47 z False u.1 u.2)) ∧ u.2 ≤ tn) := by
  refine Ki.ofz (by decide) (Nat.le_of_ble_eq_true rfl) ?_
  intro p e s m args below meth c A Q ls hx hb S0 hG hA h hret hl
  have S0 : CF p m c cX9_takeBell 3 s args RX9 := S0
  have hl : lv_has ls 3 [(0, .ref (t 0)), (1, .ref (a 0))] := hl
  refine lv_aload_n hx hb dX9_takeBell_0 rfl (lv_at hl 0 rfl) ?_
  refine cV_v0 S0 hG hA h hl.1 kw_RX9_31 kdV_X9_advance (c_X9_advance hT htn (tkE_le hz)) ⟨rfl, rfl, by decide, by decide, Nat.le_refl _, Nat.le_refl _⟩ rfl 9 0 rfl rfl rfl (Nat.le_of_ble_eq_true rfl) dX9_takeBell_1 (fun _ => rfl) (fun u H locs hq h => ?_)
  have h : WX G A s H locs (wZ G t a tb tn (nx tb tn z) f q sp rg wd it) := h
  refine lv_aload_n hx hb dX9_takeBell_4 rfl (lv_at hl 0 rfl) ?_
  refine lv_iconst (v := nI 0) hx hb dX9_takeBell_5 (by decide) ?_
  refine lv_iconst (v := nI 2) hx hb dX9_takeBell_6 (by decide) ?_
  refine cV_i0 S0 hG hA h hl.1 kw_RX9_62 kdV_X9_isNumber (c_X9_isNumber (by omega) (by omega) rfl rfl) ⟨rfl, rfl, by decide, by decide, Nat.le_refl _, Nat.le_refl _⟩ rfl 9 0 rfl rfl rfl (Nat.le_of_ble_eq_true rfl) dX9_takeBell_7 (fun _ => rfl) (fun r u H locs hq h => ?_)
  rcases hq with ⟨rfl, b7⟩ | ⟨rfl, b7⟩
  ·
    have v7 := tkV_D b7.1
    have m7 := b7.2.2
    refine n_zne hx hb (by decide) (tgt := 15) dX9_takeBell_10 (by decide) (fun _ => ?_) (fun q => absurd q (by decide))
    refine lv_aload_n hx hb dX9_takeBell_15 rfl (lv_at hl 0 rfl) ?_
    refine gT_value S0 hG h dX9_takeBell_16 ?_
    refine lv_istore_n hx hb dX9_takeBell_19 rfl hl (by decide) rfl (fun ls hl => ?_)
    refine lv_aload_n hx hb dX9_takeBell_20 rfl (lv_at hl 1 rfl) ?_
    refine cV_v0 S0 hG hA h hl.1 kw_RX9_31 kdV_X9_advance (c_X9_advance hT htn (tkE_le (nx_le hz))) ⟨rfl, rfl, by decide, by decide, Nat.le_refl _, Nat.le_refl _⟩ rfl 9 0 rfl rfl rfl (Nat.le_of_ble_eq_true rfl) dX9_takeBell_21 (fun _ => rfl) (fun u H locs hq h => ?_)
    have h : WX G A s H locs (wZ G t a tb tn (nx tb tn (nx tb tn z)) f q sp rg wd it) := h
    refine lv_aload_n hx hb dX9_takeBell_24 rfl (lv_at hl 1 rfl) ?_
    refine lv_iconst (v := nI 0) hx hb dX9_takeBell_25 (by decide) ?_
    refine lv_bipush (v := nI 47) hx hb dX9_takeBell_26 (by decide) ?_
    refine cV_i0 S0 hG hA h hl.1 kw_RX9_62 kdV_X9_isNumber (c_X9_isNumber (by omega) (by omega) rfl rfl) ⟨rfl, rfl, by decide, by decide, Nat.le_refl _, Nat.le_refl _⟩ rfl 9 0 rfl rfl rfl (Nat.le_of_ble_eq_true rfl) dX9_takeBell_28 (fun _ => rfl) (fun r u H locs hq h => ?_)
    rcases hq with ⟨rfl, b28⟩ | ⟨rfl, b28⟩
    ·
      have v28 := tkV_D b28.1
      have m28 := b28.2.2
      refine n_zne hx hb (by decide) (tgt := 36) dX9_takeBell_31 (by decide) (fun _ => ?_) (fun q => absurd q (by decide))
      refine lv_aload_n hx hb dX9_takeBell_36 rfl (lv_at hl 2 rfl) ?_
      refine gTF_bells S0 hG h dX9_takeBell_37 ?_
      refine lv_iload_n hx hb dX9_takeBell_40 rfl (lv_at hl 0 rfl) ?_
      refine lv_aload_n hx hb dX9_takeBell_41 rfl (lv_at hl 1 rfl) ?_
      refine gT_value S0 hG h dX9_takeBell_42 ?_
      refine sT_bells S0 hG h (by rw [v7]; omega) dX9_takeBell_45 (fun H locs h => ?_)
      refine lv_aload_n hx hb dX9_takeBell_46 rfl (lv_at hl 1 rfl) ?_
      refine cV_v0 S0 hG hA h hl.1 kw_RX9_31 kdV_X9_advance (c_X9_advance hT htn (tkE_le (nx_le (nx_le hz)))) ⟨rfl, rfl, by decide, by decide, Nat.le_refl _, Nat.le_refl _⟩ rfl 9 0 rfl rfl rfl (Nat.le_of_ble_eq_true rfl) dX9_takeBell_47 (fun _ => rfl) (fun u H locs hq h => ?_)
      have h : WX G A s H locs (wZ G t a tb tn (nx tb tn (nx tb tn (nx tb tn z))) (va_up f (8 + tkV tb tn (nx tb tn z)) (tkV tb tn (nx tb tn (nx tb tn z)))) q sp rg wd it) := h
      refine lv_iconst (v := nI 1) hx hb dX9_takeBell_50 (by decide) ?_
      rw [v7, v28] at h
      exact hret _ (va_up f (8 + val tb tn (nx tb tn z)) (val tb tn (nx tb tn (nx tb tn z))), (nx tb tn (nx tb tn (nx tb tn z)))) _ _ _ _ (by decide) ⟨Or.inl ⟨rfl, Or.inr (Or.inr ⟨b7, b28, trivial, rfl, rfl⟩)⟩, (nx_le (nx_le (nx_le hz)))⟩ h dX9_takeBell_51
    ·
      refine n_zne hx hb (by decide) (tgt := 36) dX9_takeBell_31 (by decide) (fun q => absurd q (by decide)) (fun _ => ?_)
      refine lv_iconst (v := nI 0) hx hb dX9_takeBell_34 (by decide) ?_
      exact hret _ (f, (nx tb tn (nx tb tn z))) _ _ _ _ (by decide) ⟨Or.inr ⟨rfl, Or.inr (Or.inl ⟨b7, b28, fun q => q, rfl⟩)⟩, (nx_le (nx_le hz))⟩ h dX9_takeBell_35
  ·
    refine n_zne hx hb (by decide) (tgt := 15) dX9_takeBell_10 (by decide) (fun q => absurd q (by decide)) (fun _ => ?_)
    refine lv_iconst (v := nI 0) hx hb dX9_takeBell_13 (by decide) ?_
    exact hret _ (f, (nx tb tn z)) _ _ _ _ (by decide) ⟨Or.inr ⟨rfl, Or.inl ⟨b7, fun q => q, rfl⟩⟩, (nx_le hz)⟩ h dX9_takeBell_14
