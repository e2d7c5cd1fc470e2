/-! the class: its calls, 1 -/
variable {G : GT} {l : Launch} {o : Nat → Nat} {f st tb : Row} {tn : Nat} {nu : Nat → Int64} {bi si : Row} {kp : Nat} {g : Row} {D : DT}
theorem kw_RX10_58 : GoodIn wsL_law (wsV RX10 58 RX10 yX10_tell (WS yX10_tell cX10_tell 3 (some .int))) := gV (rin6 _ (List.mem_of_getElem? (i := 13) rfl)) (rin6 _ (List.mem_of_getElem? (i := 14) rfl)) (rin6 _ (List.mem_of_getElem? (i := 15) rfl)) (rin1 _ (List.mem_of_getElem? (i := 2) rfl)) (rin6 _ (List.mem_of_getElem? (i := 16) rfl))
theorem kw_RX10_53 : GoodIn wsL_law (va_wsS RX10 53 yX10_isNoSpot (WS yX10_isNoSpot cX10_isNoSpot 1 (some .boolean))) := gS (rin6 _ (List.mem_of_getElem? (i := 10) rfl)) (rin6 _ (List.mem_of_getElem? (i := 11) rfl)) (rin1 _ (List.mem_of_getElem? (i := 2) rfl)) (rin6 _ (List.mem_of_getElem? (i := 12) rfl))
theorem kdV_X10_tell : yX10_tell.cls = RX10 ∧ yX10_tell.cls ≠ "java/lang/invoke/MethodHandle" ∧ yX10_tell.cls ≠ "java/lang/invoke/VarHandle" ∧ (parseMethodDescriptor yX10_tell.desc).map (fun d => d.parameters.length) = some 1 := ⟨rfl, by decide +kernel, by decide +kernel, by decide +kernel⟩
theorem kdS_X10_isNoSpot : yX10_isNoSpot.cls ≠ "java/lang/invoke/MethodHandle" ∧ yX10_isNoSpot.cls ≠ "java/lang/invoke/VarHandle" ∧ (parseMethodDescriptor yX10_isNoSpot.desc).map (fun d => d.parameters.length) = some 1 := ⟨by decide +kernel, by decide +kernel, by decide +kernel⟩
set_option maxHeartbeats 4000000 in
set_option maxRecDepth 100000 in
theorem c_X10_score {x y : Int32} : Ki G l yX10_score cX10_score 4 (some .int) (RM 3 42) [.ref (o 0), .int x, .int y] (wC G o f st tb tn nu bi si kp g D) (fun u : Row × Row × DT => wC G o u.1 u.2.1 tb tn nu bi si kp g u.2.2) (fun r u => P_score f st x y r u.1 u.2.1) := by
  refine Ki.of (by decide) (Nat.le_of_ble_eq_true rfl) ?_
  intro p e s m args below meth c A Q ls hx hb S0 hG hA h hret hl
  have S0 : CF p m c cX10_score 4 s args RX10 := S0
  have hl : lv_has ls 4 [(0, .ref (o 0)), (1, .int x), (2, .int y)] := hl
  refine lv_iload_n hx hb dX10_score_0 rfl (lv_at hl 1 rfl) ?_
  refine lv_iconst (v := nI 0) hx hb dX10_score_1 (by decide) ?_
  refine lv_iconst (v := nI 5) hx hb dX10_score_2 (by decide) ?_
  refine cS_iE S0 hG hA h hl.1 kw_RX10_49 kdS_X10_isOutside (c_X10_isOutside) ⟨rfl, rfl, by decide, by decide, Nat.le_refl _, Nat.le_refl _⟩ rfl rfl (Nat.le_of_ble_eq_true rfl) dX10_score_3 (fun r u H locs hq h => ?_)
  have hq : (r = nI 1 ∧ ¬ inR x 0 5) ∨ (r = nI 0 ∧ inR x 0 5) := hq
  rcases hq with ⟨rfl, b3⟩ | ⟨rfl, b3⟩
  ·
    refine n_zne hx hb (by decide) (tgt := 16) dX10_score_6 (by decide) (fun _ => ?_) (fun q => absurd q (by decide))
    refine lv_aload_n hx hb dX10_score_16 rfl (lv_at hl 0 rfl) ?_
    refine lv_ldc (v := -1000000001) hx hb S0.2.2.2.1 (S0.2.2.2.2 _ (rin6 _ (List.mem_of_getElem? (i := 6) rfl))) dX10_score_17 ?_
    refine cV_i0 S0 hG hA h hl.1 kw_RX10_58 kdV_X10_tell (c_X10_tell (k := 0) (by decide) (by decide)) ⟨rfl, rfl, by decide, by decide, Nat.le_refl _, Nat.le_refl _⟩ rfl 10 0 rfl rfl rfl (Nat.le_of_ble_eq_true rfl) dX10_score_19 (fun _ => rfl) (fun r u H locs hq h => ?_)
    obtain rfl := hq
    exact hret _ (f, bump st 0, D) _ _ _ _ (Or.inr ⟨fun q9 => b3 q9.1, rfl, rfl, rfl⟩) h dX10_score_22
  ·
    refine n_zne hx hb (by decide) (tgt := 16) dX10_score_6 (by decide) (fun q => absurd q (by decide)) (fun _ => ?_)
    refine lv_iload_n hx hb dX10_score_9 rfl (lv_at hl 2 rfl) ?_
    refine cS_iE S0 hG hA h hl.1 kw_RX10_53 kdS_X10_isNoSpot (c_X10_isNoSpot) ⟨rfl, rfl, by decide, by decide, Nat.le_refl _, Nat.le_refl _⟩ rfl rfl (Nat.le_of_ble_eq_true rfl) dX10_score_10 (fun r u H locs hq h => ?_)
    rcases hq with ⟨rfl, b10⟩ | ⟨rfl, b10⟩
    ·
      refine n_zeq hx hb (by decide) (tgt := 23) dX10_score_13 (by decide) (fun q => absurd q (by decide)) (fun _ => ?_)
      refine lv_aload_n hx hb dX10_score_16 rfl (lv_at hl 0 rfl) ?_
      refine lv_ldc (v := -1000000001) hx hb S0.2.2.2.1 (S0.2.2.2.2 _ (rin6 _ (List.mem_of_getElem? (i := 6) rfl))) dX10_score_17 ?_
      refine cV_i0 S0 hG hA h hl.1 kw_RX10_58 kdV_X10_tell (c_X10_tell (k := 0) (by decide) (by decide)) ⟨rfl, rfl, by decide, by decide, Nat.le_refl _, Nat.le_refl _⟩ rfl 10 0 rfl rfl rfl (Nat.le_of_ble_eq_true rfl) dX10_score_19 (fun _ => rfl) (fun r u H locs hq h => ?_)
      obtain rfl := hq
      exact hret _ (f, bump st 0, D) _ _ _ _ (Or.inr ⟨fun q9 => b10 q9.2, rfl, rfl, rfl⟩) h dX10_score_22
    ·
      obtain ⟨jx, rfl, jx1, jx2⟩ := inR_nat b3
      obtain ⟨jy, rfl, jy1, jy2⟩ := inR_nat b10
      refine n_zeq hx hb (by decide) (tgt := 23) dX10_score_13 (by decide) (fun _ => ?_) (fun q => absurd q (by decide))
      refine lv_aload_n hx hb dX10_score_23 rfl (lv_at hl 0 rfl) ?_
      refine gC_present S0 hG h dX10_score_24 ?_
      refine kPg_score S0 hG h dX10_score_27 ?_
      refine lv_iload_n hx hb dX10_score_30 rfl (lv_at hl 1 rfl) ?_
      refine kPr_score S0 hG h (by omega) dX10_score_31 ?_
      refine lv_istore_n hx hb dX10_score_32 rfl hl (by decide) rfl (fun ls hl => ?_)
      refine lv_aload_n hx hb dX10_score_33 rfl (lv_at hl 1 rfl) ?_
      refine gC_present S0 hG h dX10_score_34 ?_
      refine kPg_score S0 hG h dX10_score_37 ?_
      refine lv_iload_n hx hb dX10_score_40 rfl (lv_at hl 2 rfl) ?_
      refine lv_iload_n hx hb dX10_score_41 rfl (lv_at hl 3 rfl) ?_
      refine kPs_score S0 hG h (by omega) dX10_score_42 (fun H locs h => ?_)
      refine lv_iload_n hx hb dX10_score_43 rfl (lv_at hl 0 rfl) ?_
      exact hret _ (va_up f (2 + jx) jy, st, D) _ _ _ _ (Or.inl ⟨⟨b3, b10⟩, by rw [nt_nI jx2]; rfl, by rw [nt_nI jx2, nt_nI jy2], rfl⟩) h dX10_score_44
