variable {G : GT} {l : Launch} {o : Nat → Nat} {f st tb : Row} {tn : Nat} {nu : Nat → Int64} {bi si : Row} {kp : Nat} {g : Row} {D : DT}
theorem kw_RX10_95 : GoodIn wsL_law (va_wsS RX10 95 yX10_isNoKind (WS yX10_isNoKind cX10_isNoKind 1 (some .boolean))) := gS (rin14 _ (List.mem_of_getElem? (i := 9) rfl)) (rin14 _ (List.mem_of_getElem? (i := 10) rfl)) (rin1 _ (List.mem_of_getElem? (i := 2) rfl)) (rin14 _ (List.mem_of_getElem? (i := 11) rfl))
theorem kdS_X10_isNoKind : yX10_isNoKind.cls ≠ "java/lang/invoke/MethodHandle" ∧ yX10_isNoKind.cls ≠ "java/lang/invoke/VarHandle" ∧ (parseMethodDescriptor yX10_isNoKind.desc).map (fun d => d.parameters.length) = some 1 := ⟨by decide +kernel, by decide +kernel, by decide +kernel⟩
set_option maxHeartbeats 4000000 in
set_option maxRecDepth 100000 in
theorem c_X10_person {x y : Int32} (hI : Inv f) : Ki G l yX10_person cX10_person 3 (some .int) (RM 3 42) [.ref (o 0), .int x, .int y] (wC G o f st tb tn nu bi si kp g D) (fun u : Row × Row × DT => wC G o u.1 u.2.1 tb tn nu bi si kp g u.2.2) (fun r u => P_person f st x y r u.1 u.2.1) := by
  refine Ki.of (by decide) (Nat.le_of_ble_eq_true rfl) ?_
  intro p e s m args below meth c A Q ls hx hb S0 hG hA h hret hl
  have S0 : CF p m c cX10_person 3 s args RX10 := S0
  have hl : lv_has ls 3 [(0, .ref (o 0)), (1, .int x), (2, .int y)] := hl
  have h8 := hI.2.1
  refine lv_iload_n hx hb dX10_person_0 rfl (lv_at hl 1 rfl) ?_
  refine cS_iE S0 hG hA h hl.1 kw_RX10_95 kdS_X10_isNoKind (c_X10_isNoKind) ⟨rfl, rfl, by decide, by decide, Nat.le_refl _, Nat.le_refl _⟩ rfl rfl (Nat.le_of_ble_eq_true rfl) dX10_person_1 (fun r u H locs hq h => ?_)
  rcases hq with ⟨rfl, b1⟩ | ⟨rfl, b1⟩
  ·
    refine n_zne hx hb (by decide) (tgt := 14) dX10_person_4 (by decide) (fun _ => ?_) (fun q => absurd q (by decide))
    refine lv_aload_n hx hb dX10_person_14 rfl (lv_at hl 0 rfl) ?_
    refine lv_ldc (v := -1000000001) hx hb S0.2.2.2.1 (S0.2.2.2.2 _ (rin6 _ (List.mem_of_getElem? (i := 6) rfl))) dX10_person_15 ?_
    refine cV_i0 S0 hG hA h hl.1 kw_RX10_58 kdV_X10_tell (c_X10_tell (k := 0) (by decide) (by decide)) ⟨rfl, rfl, by decide, by decide, Nat.le_refl _, Nat.le_refl _⟩ rfl 10 0 rfl rfl rfl (Nat.le_of_ble_eq_true rfl) dX10_person_17 (fun _ => rfl) (fun r u H locs hq h => ?_)
    obtain rfl := hq
    exact hret _ (f, bump st 0, D) _ _ _ _ (Or.inr ⟨fun q9 => b1 q9.1, rfl, rfl, rfl⟩) h dX10_person_20
  ·
    refine n_zne hx hb (by decide) (tgt := 14) dX10_person_4 (by decide) (fun q => absurd q (by decide)) (fun _ => ?_)
    refine lv_iload_n hx hb dX10_person_7 rfl (lv_at hl 2 rfl) ?_
    refine cS_iE S0 hG hA h hl.1 kw_RX10_53 kdS_X10_isNoSpot (c_X10_isNoSpot) ⟨rfl, rfl, by decide, by decide, Nat.le_refl _, Nat.le_refl _⟩ rfl rfl (Nat.le_of_ble_eq_true rfl) dX10_person_8 (fun r u H locs hq h => ?_)
    rcases hq with ⟨rfl, b8⟩ | ⟨rfl, b8⟩
    ·
      refine n_zeq hx hb (by decide) (tgt := 21) dX10_person_11 (by decide) (fun q => absurd q (by decide)) (fun _ => ?_)
      refine lv_aload_n hx hb dX10_person_14 rfl (lv_at hl 0 rfl) ?_
      refine lv_ldc (v := -1000000001) hx hb S0.2.2.2.1 (S0.2.2.2.2 _ (rin6 _ (List.mem_of_getElem? (i := 6) rfl))) dX10_person_15 ?_
      refine cV_i0 S0 hG hA h hl.1 kw_RX10_58 kdV_X10_tell (c_X10_tell (k := 0) (by decide) (by decide)) ⟨rfl, rfl, by decide, by decide, Nat.le_refl _, Nat.le_refl _⟩ rfl 10 0 rfl rfl rfl (Nat.le_of_ble_eq_true rfl) dX10_person_17 (fun _ => rfl) (fun r u H locs hq h => ?_)
      obtain rfl := hq
      exact hret _ (f, bump st 0, D) _ _ _ _ (Or.inr ⟨fun q9 => b8 q9.2, rfl, rfl, rfl⟩) h dX10_person_20
    ·
      obtain ⟨jx, rfl, jx1, jx2⟩ := inR_nat b1
      obtain ⟨jy, rfl, jy1, jy2⟩ := inR_nat b8
      refine n_zeq hx hb (by decide) (tgt := 21) dX10_person_11 (by decide) (fun _ => ?_) (fun q => absurd q (by decide))
      refine lv_aload_n hx hb dX10_person_21 rfl (lv_at hl 0 rfl) ?_
      refine gC_present S0 hG h dX10_person_22 ?_
      refine kPg_people S0 hG h dX10_person_25 ?_
      refine lv_bipush (v := nI 8) hx hb dX10_person_28 (by decide) ?_
      refine n_clt hx hb (by omega) (by omega) (tgt := 40) dX10_person_30 (by decide) (fun c30 => ?_) (fun c30 => ?_)
      ·
        refine lv_aload_n hx hb dX10_person_40 rfl (lv_at hl 0 rfl) ?_
        refine gC_present S0 hG h dX10_person_41 ?_
        refine lv_iload_n hx hb dX10_person_44 rfl (lv_at hl 1 rfl) ?_
        refine lv_iload_n hx hb dX10_person_45 rfl (lv_at hl 2 rfl) ?_
        refine lv_iconst (v := nI 1) hx hb dX10_person_46 (by decide) ?_
        refine cN_vC (w2 := fun u => wC G o (adm f jx jy 1) st tb tn nu bi si kp g D) S0 hG hA h hl.1 (ws_ok (rin14 _ (List.mem_of_getElem? (i := 14) rfl))) (rin2 _ (List.mem_of_getElem? (i := 3) rfl)) (rin14 _ (List.mem_of_getElem? (i := 12) rfl)) (rin14 _ (List.mem_of_getElem? (i := 13) rfl)) (host := "ComposedInterval") (List.mem_of_getElem? (i := 49) rfl) kdS_X3_admit (c_X3_admit (a := aP o) (f := f) (q := D.1.1) (sp := D.1.2.1) (rg := D.1.2.2.1) (wd := D.1.2.2.2.1) (it := D.1.2.2.2.2) c30) ⟨rfl, rfl, by decide, by decide, Nat.le_refl _, Nat.le_refl _⟩ rfl 3 1 rfl rfl [1, 2, 3, 4, 5, 6, 7, 8, 9, 10, 11, 12, 13, 14, 15, 16] (by decide) rfl rfl rfl (Nat.le_of_ble_eq_true rfl) dX10_person_47 (fun _ H1 hk hP1 => WX.back h [1, 2, 3, 4, 5, 6, 7, 8, 9, 10, 11, 12, 13, 14, 15, 16] rfl hk hP1 fit_P) (fun _ => rfl) (fun u H locs hq h => ?_)
        refine lv_aload_n hx hb dX10_person_50 rfl (lv_at hl 0 rfl) ?_
        refine gC_present S0 hG h dX10_person_51 ?_
        refine kPg_people S0 hG h dX10_person_54 ?_
        refine lv_iconst (v := nI 1) hx hb dX10_person_57 (by decide) ?_
        refine n_sub hx hb (by unfold adm; simp only [up_lo (show 1 < 11 by decide), va_up_s]; omega) dX10_person_58 ?_
        exact hret _ (adm f jx jy 1, st, D) _ _ _ _ (Or.inl ⟨⟨b1, b8⟩, Or.inr ⟨by omega, nI_cong (by unfold adm; simp only [up_lo (show 1 < 11 by decide), va_up_s]; omega), by rw [nt_nI jx2, nt_nI jy2]; exact adm_add _ _ _, rfl⟩⟩) h dX10_person_59
      ·
        refine lv_aload_n hx hb dX10_person_33 rfl (lv_at hl 0 rfl) ?_
        refine lv_ldc (v := -1000000002) hx hb S0.2.2.2.1 (S0.2.2.2.2 _ (rin14 _ (List.mem_of_getElem? (i := 8) rfl))) dX10_person_34 ?_
        refine cV_i0 S0 hG hA h hl.1 kw_RX10_58 kdV_X10_tell (c_X10_tell (k := 1) (by decide) (by decide)) ⟨rfl, rfl, by decide, by decide, Nat.le_refl _, Nat.le_refl _⟩ rfl 10 0 rfl rfl rfl (Nat.le_of_ble_eq_true rfl) dX10_person_36 (fun _ => rfl) (fun r u H locs hq h => ?_)
        obtain rfl := hq
        exact hret _ (f, bump st 1, D) _ _ _ _ (Or.inl ⟨⟨b1, b8⟩, Or.inl ⟨by omega, rfl, rfl, rfl⟩⟩) h dX10_person_39
