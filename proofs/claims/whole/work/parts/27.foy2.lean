/-! the foyer: due -/
variable {G : GT} {l : Launch} {a : Nat → Nat} {f : Nat → Nat} {q sp : Nat} {rg : Int32} {wd : Nat → Nat} {it : Nat}
theorem kw_RX3_71 : GoodIn wsL_law (wsV RX3 71 RX3 yX3_guest (WS yX3_guest cX3_guest 2 (some (.object "ComposedInterval$Guest")))) := gV (rin8 _ (List.mem_of_getElem? (i := 21) rfl)) (rin8 _ (List.mem_of_getElem? (i := 22) rfl)) (rin8 _ (List.mem_of_getElem? (i := 23) rfl)) (rin2 _ (List.mem_of_getElem? (i := 3) rfl)) (rin9 _ (List.mem_of_getElem? (i := 0) rfl))
theorem kw_RX3_74 : GoodIn wsL_law (wsV RX3 74 RX4 yX4_hears (WS yX4_hears cX4_hears 3 (some .boolean))) := gV (rin9 _ (List.mem_of_getElem? (i := 13) rfl)) (rin9 _ (List.mem_of_getElem? (i := 12) rfl)) (rin9 _ (List.mem_of_getElem? (i := 14) rfl)) (rin2 _ (List.mem_of_getElem? (i := 23) rfl)) (rin9 _ (List.mem_of_getElem? (i := 10) rfl))
theorem kw_RX3_74_RX2 : GoodIn wsL_law (va_wsU RX3 74 RX2 "ComposedInterval$Guest" yX4_hears yX4_hears (WS yX4_hears cX4_hears 3 (some .boolean))) := gU (rin9 _ (List.mem_of_getElem? (i := 13) rfl)) (rin9 _ (List.mem_of_getElem? (i := 5) rfl)) (rin9 _ (List.mem_of_getElem? (i := 11) rfl)) (rin9 _ (List.mem_of_getElem? (i := 12) rfl)) (rin2 _ (List.mem_of_getElem? (i := 23) rfl)) (rin9 _ (List.mem_of_getElem? (i := 10) rfl))
theorem kw_RX3_74_RX8 : GoodIn wsL_law (va_wsO RX3 74 RX8 "ComposedInterval$Guest" yX4_hears yX8_hears (WS yX8_hears cX8_hears 3 (some .boolean))) := gO (rin9 _ (List.mem_of_getElem? (i := 13) rfl)) (rin9 _ (List.mem_of_getElem? (i := 5) rfl)) (rin9 _ (List.mem_of_getElem? (i := 12) rfl)) (rin9 _ (List.mem_of_getElem? (i := 21) rfl)) (rin9 _ (List.mem_of_getElem? (i := 22) rfl)) (rin3 _ (List.mem_of_getElem? (i := 7) rfl)) (rin9 _ (List.mem_of_getElem? (i := 23) rfl))
theorem kw_RX3_74_RX5 : GoodIn wsL_law (va_wsO RX3 74 RX5 "ComposedInterval$Guest" yX4_hears yX5_hears (WS yX5_hears cX5_hears 3 (some .boolean))) := gO (rin9 _ (List.mem_of_getElem? (i := 13) rfl)) (rin9 _ (List.mem_of_getElem? (i := 5) rfl)) (rin9 _ (List.mem_of_getElem? (i := 12) rfl)) (rin9 _ (List.mem_of_getElem? (i := 15) rfl)) (rin9 _ (List.mem_of_getElem? (i := 16) rfl)) (rin3 _ (List.mem_of_getElem? (i := 11) rfl)) (rin9 _ (List.mem_of_getElem? (i := 17) rfl))
theorem kw_RX3_74_RX1 : GoodIn wsL_law (va_wsO RX3 74 RX1 "ComposedInterval$Guest" yX4_hears yX1_hears (WS yX1_hears cX1_hears 3 (some .boolean))) := gO (rin9 _ (List.mem_of_getElem? (i := 13) rfl)) (rin9 _ (List.mem_of_getElem? (i := 5) rfl)) (rin9 _ (List.mem_of_getElem? (i := 12) rfl)) (rin9 _ (List.mem_of_getElem? (i := 7) rfl)) (rin9 _ (List.mem_of_getElem? (i := 8) rfl)) (rin3 _ (List.mem_of_getElem? (i := 15) rfl)) (rin9 _ (List.mem_of_getElem? (i := 9) rfl))
theorem kw_RX3_74_RX6 : GoodIn wsL_law (va_wsO RX3 74 RX6 "ComposedInterval$Guest" yX4_hears yX6_hears (WS yX6_hears cX6_hears 3 (some .boolean))) := gO (rin9 _ (List.mem_of_getElem? (i := 13) rfl)) (rin9 _ (List.mem_of_getElem? (i := 5) rfl)) (rin9 _ (List.mem_of_getElem? (i := 12) rfl)) (rin9 _ (List.mem_of_getElem? (i := 18) rfl)) (rin9 _ (List.mem_of_getElem? (i := 19) rfl)) (rin3 _ (List.mem_of_getElem? (i := 19) rfl)) (rin9 _ (List.mem_of_getElem? (i := 20) rfl))
theorem kdV_X3_guest : yX3_guest.cls = RX3 ∧ yX3_guest.cls ≠ "java/lang/invoke/MethodHandle" ∧ yX3_guest.cls ≠ "java/lang/invoke/VarHandle" ∧ (parseMethodDescriptor yX3_guest.desc).map (fun d => d.parameters.length) = some 1 := ⟨rfl, by decide +kernel, by decide +kernel, by decide +kernel⟩
theorem kdV_X4_hears : yX4_hears.cls = RX4 ∧ yX4_hears.cls ≠ "java/lang/invoke/MethodHandle" ∧ yX4_hears.cls ≠ "java/lang/invoke/VarHandle" ∧ (parseMethodDescriptor yX4_hears.desc).map (fun d => d.parameters.length) = some 2 := ⟨rfl, by decide +kernel, by decide +kernel, by decide +kernel⟩
theorem kdG_hears : ("ComposedInterval$Guest" : String) ≠ "java/lang/invoke/MethodHandle" ∧ ("ComposedInterval$Guest" : String) ≠ "java/lang/invoke/VarHandle" ∧ (parseMethodDescriptor yX4_hears.desc).map (fun d => d.parameters.length) = some 2 := ⟨by decide +kernel, by decide +kernel, by decide +kernel⟩
set_option maxHeartbeats 4000000 in
set_option maxRecDepth 100000 in
theorem c_X3_isDeceived {x : Nat} (hx1 : x < 8) (hI : Inv f) (hq : q = qtr f) (hsp : sp = sc f (qtr f)) (hrg : rg = ring f) : Ki G l yX3_isDeceived cX3_isDeceived 2 (some .boolean) (RM 3 44) [.ref (a 0), .int (nI x)] (wF G a f q sp rg wd it) (fun u : Unit => wF G a f q sp rg wd it) (fun r _ => (r = nI 1 ∧ hears f x = true) ∨ (r = nI 0 ∧ hears f x = false)) := by
  refine Ki.ofz (by decide) (Nat.le_of_ble_eq_true rfl) ?_
  intro p e s m args below meth c A Q ls hx hb S0 hG hA h hret hl
  have S0 : CF p m c cX3_isDeceived 2 s args RX3 := S0
  have hl : lv_has ls 2 [(0, .ref (a 0)), (1, .int (nI x))] := hl
  subst hq
  subst hsp
  subst hrg
  have h5 := hI.2.2.2.2 x hx1
  have hq6 := qtr_lt f
  have hs9 := hI.2.2.1 _ hq6
  refine lv_aload_n hx hb dX3_isDeceived_0 rfl (lv_at hl 0 rfl) ?_
  refine gF_RX3_ringing S0 hG h dX3_isDeceived_1 ?_
  refine lv_if_lt hx hb (tgt := 24) dX3_isDeceived_4 (by decide) (fun c4 => ?_) (fun c4 => ?_)
  ·
    have c4 := ring_lt.mp c4
    refine lv_iconst (v := nI 0) hx hb dX3_isDeceived_24 (by decide) ?_
    exact hret _ () _ _ _ _ (by decide) (by first | (refine Or.inl ⟨rfl, ?_⟩; simp [hears, hearK, nI_2, c4] <;> omega) | (refine Or.inr ⟨rfl, ?_⟩; simp [hears, hearK, nI_2, c4] <;> omega) | (refine Or.inr ⟨rfl, ?_⟩; simp [hears, hearK, nI_2, c4]; exact fun z2 => Classical.byContradiction (fun z3 => b14 ⟨z2, z3⟩))) h dX3_isDeceived_25
  ·
    have c4 : ¬ ring f = -1 := fun z9 => c4 (ring_lt.mpr z9)
    refine lv_aload_n hx hb dX3_isDeceived_7 rfl (lv_at hl 0 rfl) ?_
    refine lv_iload_n hx hb dX3_isDeceived_8 rfl (lv_at hl 1 rfl) ?_
    refine cV_r0 S0 hG hA h hl.1 kw_RX3_71 kdV_X3_guest (c_X3_guest (by omega) hI) ⟨rfl, rfl, by decide, by decide, Nat.le_refl _, Nat.le_refl _⟩ rfl 3 0 rfl rfl rfl (Nat.le_of_ble_eq_true rfl) dX3_isDeceived_9 (fun _ => rfl) (fun u H locs hq h => ?_)
    rcases (show its f x 0 = 0 ∨ its f x 0 = 1 ∨ its f x 0 = 2 ∨ its f x 0 = 3 ∨ its f x 0 = 4 ∨ its f x 0 = 5 by omega) with k9 | k9 | k9 | k9 | k9 | k9
    ·
      rw [k9]
      refine lv_aload_n hx hb dX3_isDeceived_12 rfl (lv_at hl 0 rfl) ?_
      refine lv_iload_n hx hb dX3_isDeceived_13 rfl (lv_at hl 1 rfl) ?_
      refine cV_i0 S0 hG hA h hl.1 kw_RX3_74 kdV_X4_hears (c_X4_hears (by omega) hI) ⟨rfl, rfl, by decide, by decide, Nat.le_refl _, Nat.le_refl _⟩ rfl 4 10 rfl rfl rfl (Nat.le_of_ble_eq_true rfl) dX3_isDeceived_14 (fun _ => rfl) (fun r u H locs hq h => ?_)
      rcases hq with ⟨rfl, b14⟩ | ⟨rfl, b14⟩
      ·
        refine n_zeq hx hb (by decide) (tgt := 24) dX3_isDeceived_17 (by decide) (fun q => absurd q (by decide)) (fun _ => ?_)
        refine lv_iconst (v := nI 1) hx hb dX3_isDeceived_20 (by decide) ?_
        refine lv_goto (tgt := 25) hx hb dX3_isDeceived_21 (by decide) ?_
        exact hret _ () _ _ _ _ (by decide) (by first | (refine Or.inl ⟨rfl, ?_⟩; simp [hears, hearK, nI_2, c4, k9, b14] <;> omega) | (refine Or.inr ⟨rfl, ?_⟩; simp [hears, hearK, nI_2, c4, k9, b14] <;> omega) | (refine Or.inr ⟨rfl, ?_⟩; simp [hears, hearK, nI_2, c4, k9, b14]; exact fun z2 => Classical.byContradiction (fun z3 => b14 ⟨z2, z3⟩))) h dX3_isDeceived_25
      ·
        refine n_zeq hx hb (by decide) (tgt := 24) dX3_isDeceived_17 (by decide) (fun _ => ?_) (fun q => absurd q (by decide))
        refine lv_iconst (v := nI 0) hx hb dX3_isDeceived_24 (by decide) ?_
        exact hret _ () _ _ _ _ (by decide) (by first | (refine Or.inl ⟨rfl, ?_⟩; simp [hears, hearK, nI_2, c4, k9, b14] <;> omega) | (refine Or.inr ⟨rfl, ?_⟩; simp [hears, hearK, nI_2, c4, k9, b14] <;> omega) | (refine Or.inr ⟨rfl, ?_⟩; simp [hears, hearK, nI_2, c4, k9, b14]; exact fun z2 => Classical.byContradiction (fun z3 => b14 ⟨z2, z3⟩))) h dX3_isDeceived_25
    ·
      rw [k9]
      refine lv_aload_n hx hb dX3_isDeceived_12 rfl (lv_at hl 0 rfl) ?_
      refine lv_iload_n hx hb dX3_isDeceived_13 rfl (lv_at hl 1 rfl) ?_
      refine cU_i0 S0 hG hA h hl.1 kw_RX3_74_RX2 rfl kdG_hears (c_X4_hears (by omega) hI) ⟨rfl, rfl, by decide, by decide, Nat.le_refl _, Nat.le_refl _⟩ rfl 2 11 rfl rfl rfl (Nat.le_of_ble_eq_true rfl) dX3_isDeceived_14 (fun _ => rfl) (fun r u H locs hq h => ?_)
      rcases hq with ⟨rfl, b14⟩ | ⟨rfl, b14⟩
      ·
        refine n_zeq hx hb (by decide) (tgt := 24) dX3_isDeceived_17 (by decide) (fun q => absurd q (by decide)) (fun _ => ?_)
        refine lv_iconst (v := nI 1) hx hb dX3_isDeceived_20 (by decide) ?_
        refine lv_goto (tgt := 25) hx hb dX3_isDeceived_21 (by decide) ?_
        exact hret _ () _ _ _ _ (by decide) (by first | (refine Or.inl ⟨rfl, ?_⟩; simp [hears, hearK, nI_2, c4, k9, b14] <;> omega) | (refine Or.inr ⟨rfl, ?_⟩; simp [hears, hearK, nI_2, c4, k9, b14] <;> omega) | (refine Or.inr ⟨rfl, ?_⟩; simp [hears, hearK, nI_2, c4, k9, b14]; exact fun z2 => Classical.byContradiction (fun z3 => b14 ⟨z2, z3⟩))) h dX3_isDeceived_25
      ·
        refine n_zeq hx hb (by decide) (tgt := 24) dX3_isDeceived_17 (by decide) (fun _ => ?_) (fun q => absurd q (by decide))
        refine lv_iconst (v := nI 0) hx hb dX3_isDeceived_24 (by decide) ?_
        exact hret _ () _ _ _ _ (by decide) (by first | (refine Or.inl ⟨rfl, ?_⟩; simp [hears, hearK, nI_2, c4, k9, b14] <;> omega) | (refine Or.inr ⟨rfl, ?_⟩; simp [hears, hearK, nI_2, c4, k9, b14] <;> omega) | (refine Or.inr ⟨rfl, ?_⟩; simp [hears, hearK, nI_2, c4, k9, b14]; exact fun z2 => Classical.byContradiction (fun z3 => b14 ⟨z2, z3⟩))) h dX3_isDeceived_25
    ·
      rw [k9]
      refine lv_aload_n hx hb dX3_isDeceived_12 rfl (lv_at hl 0 rfl) ?_
      refine lv_iload_n hx hb dX3_isDeceived_13 rfl (lv_at hl 1 rfl) ?_
      refine cO_i0 S0 hG hA h hl.1 kw_RX3_74_RX8 (rin9 _ (List.mem_of_getElem? (i := 10) rfl)) kdG_hears (c_X8_hears) ⟨rfl, rfl, by decide, by decide, Nat.le_refl _, Nat.le_refl _⟩ rfl 8 12 rfl rfl rfl (Nat.le_of_ble_eq_true rfl) dX3_isDeceived_14 (fun _ => rfl) (fun r u H locs hq h => ?_)
      obtain rfl := hq
      refine n_zeq hx hb (by decide) (tgt := 24) dX3_isDeceived_17 (by decide) (fun q => absurd q (by decide)) (fun _ => ?_)
      refine lv_iconst (v := nI 1) hx hb dX3_isDeceived_20 (by decide) ?_
      refine lv_goto (tgt := 25) hx hb dX3_isDeceived_21 (by decide) ?_
      exact hret _ () _ _ _ _ (by decide) (by first | (refine Or.inl ⟨rfl, ?_⟩; simp [hears, hearK, nI_2, c4, k9] <;> omega) | (refine Or.inr ⟨rfl, ?_⟩; simp [hears, hearK, nI_2, c4, k9] <;> omega) | (refine Or.inr ⟨rfl, ?_⟩; simp [hears, hearK, nI_2, c4, k9]; exact fun z2 => Classical.byContradiction (fun z3 => b14 ⟨z2, z3⟩))) h dX3_isDeceived_25
    ·
      rw [k9]
      refine lv_aload_n hx hb dX3_isDeceived_12 rfl (lv_at hl 0 rfl) ?_
      refine lv_iload_n hx hb dX3_isDeceived_13 rfl (lv_at hl 1 rfl) ?_
      refine cO_i0 S0 hG hA h hl.1 kw_RX3_74_RX5 (rin9 _ (List.mem_of_getElem? (i := 10) rfl)) kdG_hears (c_X5_hears) ⟨rfl, rfl, by decide, by decide, Nat.le_refl _, Nat.le_refl _⟩ rfl 5 13 rfl rfl rfl (Nat.le_of_ble_eq_true rfl) dX3_isDeceived_14 (fun _ => rfl) (fun r u H locs hq h => ?_)
      obtain rfl := hq
      refine n_zeq hx hb (by decide) (tgt := 24) dX3_isDeceived_17 (by decide) (fun _ => ?_) (fun q => absurd q (by decide))
      refine lv_iconst (v := nI 0) hx hb dX3_isDeceived_24 (by decide) ?_
      exact hret _ () _ _ _ _ (by decide) (by first | (refine Or.inl ⟨rfl, ?_⟩; simp [hears, hearK, nI_2, c4, k9] <;> omega) | (refine Or.inr ⟨rfl, ?_⟩; simp [hears, hearK, nI_2, c4, k9] <;> omega) | (refine Or.inr ⟨rfl, ?_⟩; simp [hears, hearK, nI_2, c4, k9]; exact fun z2 => Classical.byContradiction (fun z3 => b14 ⟨z2, z3⟩))) h dX3_isDeceived_25
    ·
      rw [k9]
      refine lv_aload_n hx hb dX3_isDeceived_12 rfl (lv_at hl 0 rfl) ?_
      refine lv_iload_n hx hb dX3_isDeceived_13 rfl (lv_at hl 1 rfl) ?_
      refine cO_i0 S0 hG hA h hl.1 kw_RX3_74_RX1 (rin9 _ (List.mem_of_getElem? (i := 10) rfl)) kdG_hears (c_X1_hears) ⟨rfl, rfl, by decide, by decide, Nat.le_refl _, Nat.le_refl _⟩ rfl 1 14 rfl rfl rfl (Nat.le_of_ble_eq_true rfl) dX3_isDeceived_14 (fun _ => rfl) (fun r u H locs hq h => ?_)
      obtain rfl := hq
      refine n_zeq hx hb (by decide) (tgt := 24) dX3_isDeceived_17 (by decide) (fun _ => ?_) (fun q => absurd q (by decide))
      refine lv_iconst (v := nI 0) hx hb dX3_isDeceived_24 (by decide) ?_
      exact hret _ () _ _ _ _ (by decide) (by first | (refine Or.inl ⟨rfl, ?_⟩; simp [hears, hearK, nI_2, c4, k9] <;> omega) | (refine Or.inr ⟨rfl, ?_⟩; simp [hears, hearK, nI_2, c4, k9] <;> omega) | (refine Or.inr ⟨rfl, ?_⟩; simp [hears, hearK, nI_2, c4, k9]; exact fun z2 => Classical.byContradiction (fun z3 => b14 ⟨z2, z3⟩))) h dX3_isDeceived_25
    ·
      rw [k9]
      refine lv_aload_n hx hb dX3_isDeceived_12 rfl (lv_at hl 0 rfl) ?_
      refine lv_iload_n hx hb dX3_isDeceived_13 rfl (lv_at hl 1 rfl) ?_
      refine cO_i0 S0 hG hA h hl.1 kw_RX3_74_RX6 (rin9 _ (List.mem_of_getElem? (i := 10) rfl)) kdG_hears (c_X6_hears (q0 := 15) (ci := 6) rfl rfl (by omega) hI) ⟨rfl, rfl, by decide, by decide, Nat.le_refl _, Nat.le_refl _⟩ rfl 6 15 rfl rfl rfl (Nat.le_of_ble_eq_true rfl) dX3_isDeceived_14 (fun _ => rfl) (fun r u H locs hq h => ?_)
      rcases hq with ⟨rfl, b14⟩ | ⟨rfl, b14⟩
      ·
        refine n_zeq hx hb (by decide) (tgt := 24) dX3_isDeceived_17 (by decide) (fun q => absurd q (by decide)) (fun _ => ?_)
        refine lv_iconst (v := nI 1) hx hb dX3_isDeceived_20 (by decide) ?_
        refine lv_goto (tgt := 25) hx hb dX3_isDeceived_21 (by decide) ?_
        exact hret _ () _ _ _ _ (by decide) (by first | (refine Or.inl ⟨rfl, ?_⟩; simp [hears, hearK, nI_2, c4, k9, b14] <;> omega) | (refine Or.inr ⟨rfl, ?_⟩; simp [hears, hearK, nI_2, c4, k9, b14] <;> omega) | (refine Or.inr ⟨rfl, ?_⟩; simp [hears, hearK, nI_2, c4, k9, b14]; exact fun z2 => Classical.byContradiction (fun z3 => b14 ⟨z2, z3⟩))) h dX3_isDeceived_25
      ·
        refine n_zeq hx hb (by decide) (tgt := 24) dX3_isDeceived_17 (by decide) (fun _ => ?_) (fun q => absurd q (by decide))
        refine lv_iconst (v := nI 0) hx hb dX3_isDeceived_24 (by decide) ?_
        exact hret _ () _ _ _ _ (by decide) (by first | (refine Or.inl ⟨rfl, ?_⟩; simp [hears, hearK, nI_2, c4, k9, b14] <;> omega) | (refine Or.inr ⟨rfl, ?_⟩; simp [hears, hearK, nI_2, c4, k9, b14] <;> omega) | (refine Or.inr ⟨rfl, ?_⟩; simp [hears, hearK, nI_2, c4, k9, b14]; exact fun z2 => Classical.byContradiction (fun z3 => b14 ⟨z2, z3⟩))) h dX3_isDeceived_25
theorem kw_RX3_80 : GoodIn wsL_law (wsV RX3 80 RX4 yX4_due (WS yX4_due cX4_due 3 (some .int))) := gV (rin10 _ (List.mem_of_getElem? (i := 18) rfl)) (rin10 _ (List.mem_of_getElem? (i := 13) rfl)) (rin10 _ (List.mem_of_getElem? (i := 19) rfl)) (rin2 _ (List.mem_of_getElem? (i := 23) rfl)) (rin10 _ (List.mem_of_getElem? (i := 14) rfl))
theorem kw_RX3_80_RX2 : GoodIn wsL_law (va_wsO RX3 80 RX2 "ComposedInterval$Guest" yX4_due yX2_due (WS yX2_due cX2_due 3 (some .int))) := gO (rin10 _ (List.mem_of_getElem? (i := 18) rfl)) (rin10 _ (List.mem_of_getElem? (i := 1) rfl)) (rin10 _ (List.mem_of_getElem? (i := 13) rfl)) (rin10 _ (List.mem_of_getElem? (i := 15) rfl)) (rin10 _ (List.mem_of_getElem? (i := 16) rfl)) (rin3 _ (List.mem_of_getElem? (i := 3) rfl)) (rin10 _ (List.mem_of_getElem? (i := 17) rfl))
theorem kw_RX3_80_RX8 : GoodIn wsL_law (va_wsO RX3 80 RX8 "ComposedInterval$Guest" yX4_due yX8_due (WS yX8_due cX8_due 3 (some .int))) := gO (rin10 _ (List.mem_of_getElem? (i := 18) rfl)) (rin10 _ (List.mem_of_getElem? (i := 1) rfl)) (rin10 _ (List.mem_of_getElem? (i := 13) rfl)) (rin11 _ (List.mem_of_getElem? (i := 9) rfl)) (rin10 _ (List.mem_of_getElem? (i := 9) rfl)) (rin3 _ (List.mem_of_getElem? (i := 7) rfl)) (rin10 _ (List.mem_of_getElem? (i := 10) rfl))
theorem kw_RX3_80_RX5 : GoodIn wsL_law (va_wsO RX3 80 RX5 "ComposedInterval$Guest" yX4_due yX5_due (WS yX5_due cX5_due 3 (some .int))) := gO (rin10 _ (List.mem_of_getElem? (i := 18) rfl)) (rin10 _ (List.mem_of_getElem? (i := 1) rfl)) (rin10 _ (List.mem_of_getElem? (i := 13) rfl)) (rin10 _ (List.mem_of_getElem? (i := 20) rfl)) (rin10 _ (List.mem_of_getElem? (i := 21) rfl)) (rin3 _ (List.mem_of_getElem? (i := 11) rfl)) (rin10 _ (List.mem_of_getElem? (i := 22) rfl))
theorem kw_RX3_80_RX1 : GoodIn wsL_law (va_wsO RX3 80 RX1 "ComposedInterval$Guest" yX4_due yX1_due (WS yX1_due cX1_due 4 (some .int))) := gO (rin10 _ (List.mem_of_getElem? (i := 18) rfl)) (rin10 _ (List.mem_of_getElem? (i := 1) rfl)) (rin10 _ (List.mem_of_getElem? (i := 13) rfl)) (rin10 _ (List.mem_of_getElem? (i := 3) rfl)) (rin10 _ (List.mem_of_getElem? (i := 4) rfl)) (rin3 _ (List.mem_of_getElem? (i := 15) rfl)) (rin10 _ (List.mem_of_getElem? (i := 5) rfl))
theorem kw_RX3_80_RX6 : GoodIn wsL_law (va_wsO RX3 80 RX6 "ComposedInterval$Guest" yX4_due yX6_due (WS yX6_due cX6_due 3 (some .int))) := gO (rin10 _ (List.mem_of_getElem? (i := 18) rfl)) (rin10 _ (List.mem_of_getElem? (i := 1) rfl)) (rin10 _ (List.mem_of_getElem? (i := 13) rfl)) (rin10 _ (List.mem_of_getElem? (i := 23) rfl)) (rin11 _ (List.mem_of_getElem? (i := 0) rfl)) (rin3 _ (List.mem_of_getElem? (i := 19) rfl)) (rin11 _ (List.mem_of_getElem? (i := 1) rfl))
theorem kdV_X4_due : yX4_due.cls = RX4 ∧ yX4_due.cls ≠ "java/lang/invoke/MethodHandle" ∧ yX4_due.cls ≠ "java/lang/invoke/VarHandle" ∧ (parseMethodDescriptor yX4_due.desc).map (fun d => d.parameters.length) = some 2 := ⟨rfl, by decide +kernel, by decide +kernel, by decide +kernel⟩
theorem kdG_due : ("ComposedInterval$Guest" : String) ≠ "java/lang/invoke/MethodHandle" ∧ ("ComposedInterval$Guest" : String) ≠ "java/lang/invoke/VarHandle" ∧ (parseMethodDescriptor yX4_due.desc).map (fun d => d.parameters.length) = some 2 := ⟨by decide +kernel, by decide +kernel, by decide +kernel⟩
set_option maxHeartbeats 4000000 in
set_option maxRecDepth 100000 in
theorem c_X3_dueOf {x : Nat} (hx1 : x < 8) (hI : Inv f) (hq : q = qtr f) (hsp : sp = sc f (qtr f)) (hrg : rg = ring f) : Ki G l yX3_dueOf cX3_dueOf 3 (some .int) (RM 4 67) [.ref (a 0), .int (nI x)] (wF G a f q sp rg wd it) (fun u : Unit => wF G a f q sp rg wd it) (fun r _ => r = nI (due f x)) := by
  refine Ki.of (by decide) (Nat.le_of_ble_eq_true rfl) ?_
  intro p e s m args below meth c A Q ls hx hb S0 hG hA h hret hl
  have S0 : CF p m c cX3_dueOf 3 s args RX3 := S0
  have hl : lv_has ls 3 [(0, .ref (a 0)), (1, .int (nI x))] := hl
  subst hq
  subst hsp
  subst hrg
  have h5 := hI.2.2.2.2 x hx1
  have hq6 := qtr_lt f
  have hs9 := hI.2.2.1 _ hq6
  refine lv_aload_n hx hb dX3_dueOf_0 rfl (lv_at hl 0 rfl) ?_
  refine lv_iload_n hx hb dX3_dueOf_1 rfl (lv_at hl 1 rfl) ?_
  refine cV_r0 S0 hG hA h hl.1 kw_RX3_71 kdV_X3_guest (c_X3_guest (by omega) hI) ⟨rfl, rfl, by decide, by decide, Nat.le_refl _, Nat.le_refl _⟩ rfl 3 0 rfl rfl rfl (Nat.le_of_ble_eq_true rfl) dX3_dueOf_2 (fun _ => rfl) (fun u H locs hq h => ?_)
  rcases (show its f x 0 = 0 ∨ its f x 0 = 1 ∨ its f x 0 = 2 ∨ its f x 0 = 3 ∨ its f x 0 = 4 ∨ its f x 0 = 5 by omega) with k2 | k2 | k2 | k2 | k2 | k2
  ·
    rw [k2]
    refine lv_astore_n hx hb dX3_dueOf_5 rfl hl (by decide) rfl (fun ls hl => ?_)
    refine lv_aload_n hx hb dX3_dueOf_6 rfl (lv_at hl 1 rfl) ?_
    refine gF_RX3_ringing S0 hG h dX3_dueOf_7 ?_
    refine lv_if_lt hx hb (tgt := 26) dX3_dueOf_10 (by decide) (fun c10 => ?_) (fun c10 => ?_)
    ·
      have c10 := ring_lt.mp c10
      refine lv_aload_n hx hb dX3_dueOf_26 rfl (lv_at hl 0 rfl) ?_
      refine lv_aload_n hx hb dX3_dueOf_27 rfl (lv_at hl 1 rfl) ?_
      refine lv_iload_n hx hb dX3_dueOf_28 rfl (lv_at hl 2 rfl) ?_
      refine cV_i0 S0 hG hA h hl.1 kw_RX3_80 kdV_X4_due (c_X4_due) ⟨rfl, rfl, by decide, by decide, Nat.le_refl _, Nat.le_refl _⟩ rfl 4 10 rfl rfl rfl (Nat.le_of_ble_eq_true rfl) dX3_dueOf_29 (fun _ => rfl) (fun r u H locs hq h => ?_)
      obtain rfl := hq
      exact hret _ () _ _ _ _ (nI_cong (by simp [due, hears, hearK, nI_2, writ, singW, k2, c10] <;> omega)) h dX3_dueOf_32
    ·
      have c10 : ¬ ring f = -1 := fun z9 => c10 (ring_lt.mpr z9)
      refine lv_aload_n hx hb dX3_dueOf_13 rfl (lv_at hl 0 rfl) ?_
      refine lv_aload_n hx hb dX3_dueOf_14 rfl (lv_at hl 1 rfl) ?_
      refine lv_iload_n hx hb dX3_dueOf_15 rfl (lv_at hl 2 rfl) ?_
      refine cV_i0 S0 hG hA h hl.1 kw_RX3_74 kdV_X4_hears (c_X4_hears (by omega) hI) ⟨rfl, rfl, by decide, by decide, Nat.le_refl _, Nat.le_refl _⟩ rfl 4 10 rfl rfl rfl (Nat.le_of_ble_eq_true rfl) dX3_dueOf_16 (fun _ => rfl) (fun r u H locs hq h => ?_)
      rcases hq with ⟨rfl, b16⟩ | ⟨rfl, b16⟩
      ·
        refine n_zeq hx hb (by decide) (tgt := 26) dX3_dueOf_19 (by decide) (fun q => absurd q (by decide)) (fun _ => ?_)
        refine lv_iconst (v := nI 0) hx hb dX3_dueOf_22 (by decide) ?_
        refine lv_goto (tgt := 32) hx hb dX3_dueOf_23 (by decide) ?_
        exact hret _ () _ _ _ _ (nI_cong (by simp [due, hears, hearK, nI_2, writ, singW, k2, c10, b16] <;> omega)) h dX3_dueOf_32
      ·
        refine n_zeq hx hb (by decide) (tgt := 26) dX3_dueOf_19 (by decide) (fun _ => ?_) (fun q => absurd q (by decide))
        refine lv_aload_n hx hb dX3_dueOf_26 rfl (lv_at hl 0 rfl) ?_
        refine lv_aload_n hx hb dX3_dueOf_27 rfl (lv_at hl 1 rfl) ?_
        refine lv_iload_n hx hb dX3_dueOf_28 rfl (lv_at hl 2 rfl) ?_
        refine cV_i0 S0 hG hA h hl.1 kw_RX3_80 kdV_X4_due (c_X4_due) ⟨rfl, rfl, by decide, by decide, Nat.le_refl _, Nat.le_refl _⟩ rfl 4 10 rfl rfl rfl (Nat.le_of_ble_eq_true rfl) dX3_dueOf_29 (fun _ => rfl) (fun r u H locs hq h => ?_)
        obtain rfl := hq
        exact hret _ () _ _ _ _ (nI_cong (by simp [due, hears, hearK, nI_2, writ, singW, k2, c10, b16] <;> omega)) h dX3_dueOf_32
  ·
    rw [k2]
    refine lv_astore_n hx hb dX3_dueOf_5 rfl hl (by decide) rfl (fun ls hl => ?_)
    refine lv_aload_n hx hb dX3_dueOf_6 rfl (lv_at hl 1 rfl) ?_
    refine gF_RX3_ringing S0 hG h dX3_dueOf_7 ?_
    refine lv_if_lt hx hb (tgt := 26) dX3_dueOf_10 (by decide) (fun c10 => ?_) (fun c10 => ?_)
    ·
      have c10 := ring_lt.mp c10
      refine lv_aload_n hx hb dX3_dueOf_26 rfl (lv_at hl 0 rfl) ?_
      refine lv_aload_n hx hb dX3_dueOf_27 rfl (lv_at hl 1 rfl) ?_
      refine lv_iload_n hx hb dX3_dueOf_28 rfl (lv_at hl 2 rfl) ?_
      refine cO_i0 S0 hG hA h hl.1 kw_RX3_80_RX2 (rin10 _ (List.mem_of_getElem? (i := 14) rfl)) kdG_due (c_X2_due (by omega)) ⟨rfl, rfl, by decide, by decide, Nat.le_refl _, Nat.le_refl _⟩ rfl 2 11 rfl rfl rfl (Nat.le_of_ble_eq_true rfl) dX3_dueOf_29 (fun _ => rfl) (fun r u H locs hq h => ?_)
      obtain rfl := hq
      exact hret _ () _ _ _ _ (nI_cong (by simp [due, hears, hearK, nI_2, writ, singW, k2, c10] <;> omega)) h dX3_dueOf_32
    ·
      have c10 : ¬ ring f = -1 := fun z9 => c10 (ring_lt.mpr z9)
      refine lv_aload_n hx hb dX3_dueOf_13 rfl (lv_at hl 0 rfl) ?_
      refine lv_aload_n hx hb dX3_dueOf_14 rfl (lv_at hl 1 rfl) ?_
      refine lv_iload_n hx hb dX3_dueOf_15 rfl (lv_at hl 2 rfl) ?_
      refine cU_i0 S0 hG hA h hl.1 kw_RX3_74_RX2 rfl kdG_hears (c_X4_hears (by omega) hI) ⟨rfl, rfl, by decide, by decide, Nat.le_refl _, Nat.le_refl _⟩ rfl 2 11 rfl rfl rfl (Nat.le_of_ble_eq_true rfl) dX3_dueOf_16 (fun _ => rfl) (fun r u H locs hq h => ?_)
      rcases hq with ⟨rfl, b16⟩ | ⟨rfl, b16⟩
      ·
        refine n_zeq hx hb (by decide) (tgt := 26) dX3_dueOf_19 (by decide) (fun q => absurd q (by decide)) (fun _ => ?_)
        refine lv_iconst (v := nI 0) hx hb dX3_dueOf_22 (by decide) ?_
        refine lv_goto (tgt := 32) hx hb dX3_dueOf_23 (by decide) ?_
        exact hret _ () _ _ _ _ (nI_cong (by simp [due, hears, hearK, nI_2, writ, singW, k2, c10, b16] <;> omega)) h dX3_dueOf_32
      ·
        refine n_zeq hx hb (by decide) (tgt := 26) dX3_dueOf_19 (by decide) (fun _ => ?_) (fun q => absurd q (by decide))
        refine lv_aload_n hx hb dX3_dueOf_26 rfl (lv_at hl 0 rfl) ?_
        refine lv_aload_n hx hb dX3_dueOf_27 rfl (lv_at hl 1 rfl) ?_
        refine lv_iload_n hx hb dX3_dueOf_28 rfl (lv_at hl 2 rfl) ?_
        refine cO_i0 S0 hG hA h hl.1 kw_RX3_80_RX2 (rin10 _ (List.mem_of_getElem? (i := 14) rfl)) kdG_due (c_X2_due (by omega)) ⟨rfl, rfl, by decide, by decide, Nat.le_refl _, Nat.le_refl _⟩ rfl 2 11 rfl rfl rfl (Nat.le_of_ble_eq_true rfl) dX3_dueOf_29 (fun _ => rfl) (fun r u H locs hq h => ?_)
        obtain rfl := hq
        exact hret _ () _ _ _ _ (nI_cong (by simp [due, hears, hearK, nI_2, writ, singW, k2, c10, b16] <;> omega)) h dX3_dueOf_32
  ·
    rw [k2]
    refine lv_astore_n hx hb dX3_dueOf_5 rfl hl (by decide) rfl (fun ls hl => ?_)
    refine lv_aload_n hx hb dX3_dueOf_6 rfl (lv_at hl 1 rfl) ?_
    refine gF_RX3_ringing S0 hG h dX3_dueOf_7 ?_
    refine lv_if_lt hx hb (tgt := 26) dX3_dueOf_10 (by decide) (fun c10 => ?_) (fun c10 => ?_)
    ·
      have c10 := ring_lt.mp c10
      refine lv_aload_n hx hb dX3_dueOf_26 rfl (lv_at hl 0 rfl) ?_
      refine lv_aload_n hx hb dX3_dueOf_27 rfl (lv_at hl 1 rfl) ?_
      refine lv_iload_n hx hb dX3_dueOf_28 rfl (lv_at hl 2 rfl) ?_
      refine cO_i0 S0 hG hA h hl.1 kw_RX3_80_RX8 (rin10 _ (List.mem_of_getElem? (i := 14) rfl)) kdG_due (c_X8_due (q0 := 12) (ci := 8) rfl rfl (by omega)) ⟨rfl, rfl, by decide, by decide, Nat.le_refl _, Nat.le_refl _⟩ rfl 8 12 rfl rfl rfl (Nat.le_of_ble_eq_true rfl) dX3_dueOf_29 (fun _ => rfl) (fun r u H locs hq h => ?_)
      obtain rfl := hq
      exact hret _ () _ _ _ _ (nI_cong (by simp [due, hears, hearK, nI_2, writ, singW, k2, c10] <;> omega)) h dX3_dueOf_32
    ·
      have c10 : ¬ ring f = -1 := fun z9 => c10 (ring_lt.mpr z9)
      refine lv_aload_n hx hb dX3_dueOf_13 rfl (lv_at hl 0 rfl) ?_
      refine lv_aload_n hx hb dX3_dueOf_14 rfl (lv_at hl 1 rfl) ?_
      refine lv_iload_n hx hb dX3_dueOf_15 rfl (lv_at hl 2 rfl) ?_
      refine cO_i0 S0 hG hA h hl.1 kw_RX3_74_RX8 (rin9 _ (List.mem_of_getElem? (i := 10) rfl)) kdG_hears (c_X8_hears) ⟨rfl, rfl, by decide, by decide, Nat.le_refl _, Nat.le_refl _⟩ rfl 8 12 rfl rfl rfl (Nat.le_of_ble_eq_true rfl) dX3_dueOf_16 (fun _ => rfl) (fun r u H locs hq h => ?_)
      obtain rfl := hq
      refine n_zeq hx hb (by decide) (tgt := 26) dX3_dueOf_19 (by decide) (fun q => absurd q (by decide)) (fun _ => ?_)
      refine lv_iconst (v := nI 0) hx hb dX3_dueOf_22 (by decide) ?_
      refine lv_goto (tgt := 32) hx hb dX3_dueOf_23 (by decide) ?_
      exact hret _ () _ _ _ _ (nI_cong (by simp [due, hears, hearK, nI_2, writ, singW, k2, c10] <;> omega)) h dX3_dueOf_32
  ·
    rw [k2]
    refine lv_astore_n hx hb dX3_dueOf_5 rfl hl (by decide) rfl (fun ls hl => ?_)
    refine lv_aload_n hx hb dX3_dueOf_6 rfl (lv_at hl 1 rfl) ?_
    refine gF_RX3_ringing S0 hG h dX3_dueOf_7 ?_
    refine lv_if_lt hx hb (tgt := 26) dX3_dueOf_10 (by decide) (fun c10 => ?_) (fun c10 => ?_)
    ·
      have c10 := ring_lt.mp c10
      refine lv_aload_n hx hb dX3_dueOf_26 rfl (lv_at hl 0 rfl) ?_
      refine lv_aload_n hx hb dX3_dueOf_27 rfl (lv_at hl 1 rfl) ?_
      refine lv_iload_n hx hb dX3_dueOf_28 rfl (lv_at hl 2 rfl) ?_
      refine cO_i0 S0 hG hA h hl.1 kw_RX3_80_RX5 (rin10 _ (List.mem_of_getElem? (i := 14) rfl)) kdG_due (c_X5_due (by omega) hI) ⟨rfl, rfl, by decide, by decide, Nat.le_refl _, Nat.le_refl _⟩ rfl 5 13 rfl rfl rfl (Nat.le_of_ble_eq_true rfl) dX3_dueOf_29 (fun _ => rfl) (fun r u H locs hq h => ?_)
      obtain rfl := hq
      exact hret _ () _ _ _ _ (nI_cong (by simp [due, hears, hearK, nI_2, writ, singW, k2, c10] <;> omega)) h dX3_dueOf_32
    ·
      have c10 : ¬ ring f = -1 := fun z9 => c10 (ring_lt.mpr z9)
      refine lv_aload_n hx hb dX3_dueOf_13 rfl (lv_at hl 0 rfl) ?_
      refine lv_aload_n hx hb dX3_dueOf_14 rfl (lv_at hl 1 rfl) ?_
      refine lv_iload_n hx hb dX3_dueOf_15 rfl (lv_at hl 2 rfl) ?_
      refine cO_i0 S0 hG hA h hl.1 kw_RX3_74_RX5 (rin9 _ (List.mem_of_getElem? (i := 10) rfl)) kdG_hears (c_X5_hears) ⟨rfl, rfl, by decide, by decide, Nat.le_refl _, Nat.le_refl _⟩ rfl 5 13 rfl rfl rfl (Nat.le_of_ble_eq_true rfl) dX3_dueOf_16 (fun _ => rfl) (fun r u H locs hq h => ?_)
      obtain rfl := hq
      refine n_zeq hx hb (by decide) (tgt := 26) dX3_dueOf_19 (by decide) (fun _ => ?_) (fun q => absurd q (by decide))
      refine lv_aload_n hx hb dX3_dueOf_26 rfl (lv_at hl 0 rfl) ?_
      refine lv_aload_n hx hb dX3_dueOf_27 rfl (lv_at hl 1 rfl) ?_
      refine lv_iload_n hx hb dX3_dueOf_28 rfl (lv_at hl 2 rfl) ?_
      refine cO_i0 S0 hG hA h hl.1 kw_RX3_80_RX5 (rin10 _ (List.mem_of_getElem? (i := 14) rfl)) kdG_due (c_X5_due (by omega) hI) ⟨rfl, rfl, by decide, by decide, Nat.le_refl _, Nat.le_refl _⟩ rfl 5 13 rfl rfl rfl (Nat.le_of_ble_eq_true rfl) dX3_dueOf_29 (fun _ => rfl) (fun r u H locs hq h => ?_)
      obtain rfl := hq
      exact hret _ () _ _ _ _ (nI_cong (by simp [due, hears, hearK, nI_2, writ, singW, k2, c10] <;> omega)) h dX3_dueOf_32
  ·
    rw [k2]
    refine lv_astore_n hx hb dX3_dueOf_5 rfl hl (by decide) rfl (fun ls hl => ?_)
    refine lv_aload_n hx hb dX3_dueOf_6 rfl (lv_at hl 1 rfl) ?_
    refine gF_RX3_ringing S0 hG h dX3_dueOf_7 ?_
    refine lv_if_lt hx hb (tgt := 26) dX3_dueOf_10 (by decide) (fun c10 => ?_) (fun c10 => ?_)
    ·
      have c10 := ring_lt.mp c10
      refine lv_aload_n hx hb dX3_dueOf_26 rfl (lv_at hl 0 rfl) ?_
      refine lv_aload_n hx hb dX3_dueOf_27 rfl (lv_at hl 1 rfl) ?_
      refine lv_iload_n hx hb dX3_dueOf_28 rfl (lv_at hl 2 rfl) ?_
      refine cO_i0 S0 hG hA h hl.1 kw_RX3_80_RX1 (rin10 _ (List.mem_of_getElem? (i := 14) rfl)) kdG_due (c_X1_due (q0 := 14) (ci := 1) rfl rfl (by omega) hI) ⟨rfl, rfl, by decide, by decide, Nat.le_refl _, Nat.le_refl _⟩ rfl 1 14 rfl rfl rfl (Nat.le_of_ble_eq_true rfl) dX3_dueOf_29 (fun _ => rfl) (fun r u H locs hq h => ?_)
      obtain rfl := hq
      exact hret _ () _ _ _ _ (nI_cong (by simp [due, hears, hearK, nI_2, writ, singW, k2, c10] <;> omega)) h dX3_dueOf_32
    ·
      have c10 : ¬ ring f = -1 := fun z9 => c10 (ring_lt.mpr z9)
      refine lv_aload_n hx hb dX3_dueOf_13 rfl (lv_at hl 0 rfl) ?_
      refine lv_aload_n hx hb dX3_dueOf_14 rfl (lv_at hl 1 rfl) ?_
      refine lv_iload_n hx hb dX3_dueOf_15 rfl (lv_at hl 2 rfl) ?_
      refine cO_i0 S0 hG hA h hl.1 kw_RX3_74_RX1 (rin9 _ (List.mem_of_getElem? (i := 10) rfl)) kdG_hears (c_X1_hears) ⟨rfl, rfl, by decide, by decide, Nat.le_refl _, Nat.le_refl _⟩ rfl 1 14 rfl rfl rfl (Nat.le_of_ble_eq_true rfl) dX3_dueOf_16 (fun _ => rfl) (fun r u H locs hq h => ?_)
      obtain rfl := hq
      refine n_zeq hx hb (by decide) (tgt := 26) dX3_dueOf_19 (by decide) (fun _ => ?_) (fun q => absurd q (by decide))
      refine lv_aload_n hx hb dX3_dueOf_26 rfl (lv_at hl 0 rfl) ?_
      refine lv_aload_n hx hb dX3_dueOf_27 rfl (lv_at hl 1 rfl) ?_
      refine lv_iload_n hx hb dX3_dueOf_28 rfl (lv_at hl 2 rfl) ?_
      refine cO_i0 S0 hG hA h hl.1 kw_RX3_80_RX1 (rin10 _ (List.mem_of_getElem? (i := 14) rfl)) kdG_due (c_X1_due (q0 := 14) (ci := 1) rfl rfl (by omega) hI) ⟨rfl, rfl, by decide, by decide, Nat.le_refl _, Nat.le_refl _⟩ rfl 1 14 rfl rfl rfl (Nat.le_of_ble_eq_true rfl) dX3_dueOf_29 (fun _ => rfl) (fun r u H locs hq h => ?_)
      obtain rfl := hq
      exact hret _ () _ _ _ _ (nI_cong (by simp [due, hears, hearK, nI_2, writ, singW, k2, c10] <;> omega)) h dX3_dueOf_32
  ·
    rw [k2]
    refine lv_astore_n hx hb dX3_dueOf_5 rfl hl (by decide) rfl (fun ls hl => ?_)
    refine lv_aload_n hx hb dX3_dueOf_6 rfl (lv_at hl 1 rfl) ?_
    refine gF_RX3_ringing S0 hG h dX3_dueOf_7 ?_
    refine lv_if_lt hx hb (tgt := 26) dX3_dueOf_10 (by decide) (fun c10 => ?_) (fun c10 => ?_)
    ·
      have c10 := ring_lt.mp c10
      refine lv_aload_n hx hb dX3_dueOf_26 rfl (lv_at hl 0 rfl) ?_
      refine lv_aload_n hx hb dX3_dueOf_27 rfl (lv_at hl 1 rfl) ?_
      refine lv_iload_n hx hb dX3_dueOf_28 rfl (lv_at hl 2 rfl) ?_
      refine cO_i0 S0 hG hA h hl.1 kw_RX3_80_RX6 (rin10 _ (List.mem_of_getElem? (i := 14) rfl)) kdG_due (c_X6_due (q0 := 15) (ci := 6) rfl rfl (by omega)) ⟨rfl, rfl, by decide, by decide, Nat.le_refl _, Nat.le_refl _⟩ rfl 6 15 rfl rfl rfl (Nat.le_of_ble_eq_true rfl) dX3_dueOf_29 (fun _ => rfl) (fun r u H locs hq h => ?_)
      obtain rfl := hq
      exact hret _ () _ _ _ _ (nI_cong (by simp [due, hears, hearK, nI_2, writ, singW, k2, c10] <;> omega)) h dX3_dueOf_32
    ·
      have c10 : ¬ ring f = -1 := fun z9 => c10 (ring_lt.mpr z9)
      refine lv_aload_n hx hb dX3_dueOf_13 rfl (lv_at hl 0 rfl) ?_
      refine lv_aload_n hx hb dX3_dueOf_14 rfl (lv_at hl 1 rfl) ?_
      refine lv_iload_n hx hb dX3_dueOf_15 rfl (lv_at hl 2 rfl) ?_
      refine cO_i0 S0 hG hA h hl.1 kw_RX3_74_RX6 (rin9 _ (List.mem_of_getElem? (i := 10) rfl)) kdG_hears (c_X6_hears (q0 := 15) (ci := 6) rfl rfl (by omega) hI) ⟨rfl, rfl, by decide, by decide, Nat.le_refl _, Nat.le_refl _⟩ rfl 6 15 rfl rfl rfl (Nat.le_of_ble_eq_true rfl) dX3_dueOf_16 (fun _ => rfl) (fun r u H locs hq h => ?_)
      rcases hq with ⟨rfl, b16⟩ | ⟨rfl, b16⟩
      ·
        refine n_zeq hx hb (by decide) (tgt := 26) dX3_dueOf_19 (by decide) (fun q => absurd q (by decide)) (fun _ => ?_)
        refine lv_iconst (v := nI 0) hx hb dX3_dueOf_22 (by decide) ?_
        refine lv_goto (tgt := 32) hx hb dX3_dueOf_23 (by decide) ?_
        exact hret _ () _ _ _ _ (nI_cong (by simp [due, hears, hearK, nI_2, writ, singW, k2, c10, b16] <;> omega)) h dX3_dueOf_32
      ·
        refine n_zeq hx hb (by decide) (tgt := 26) dX3_dueOf_19 (by decide) (fun _ => ?_) (fun q => absurd q (by decide))
        refine lv_aload_n hx hb dX3_dueOf_26 rfl (lv_at hl 0 rfl) ?_
        refine lv_aload_n hx hb dX3_dueOf_27 rfl (lv_at hl 1 rfl) ?_
        refine lv_iload_n hx hb dX3_dueOf_28 rfl (lv_at hl 2 rfl) ?_
        refine cO_i0 S0 hG hA h hl.1 kw_RX3_80_RX6 (rin10 _ (List.mem_of_getElem? (i := 14) rfl)) kdG_due (c_X6_due (q0 := 15) (ci := 6) rfl rfl (by omega)) ⟨rfl, rfl, by decide, by decide, Nat.le_refl _, Nat.le_refl _⟩ rfl 6 15 rfl rfl rfl (Nat.le_of_ble_eq_true rfl) dX3_dueOf_29 (fun _ => rfl) (fun r u H locs hq h => ?_)
        obtain rfl := hq
        exact hret _ () _ _ _ _ (nI_cong (by simp [due, hears, hearK, nI_2, writ, singW, k2, c10, b16] <;> omega)) h dX3_dueOf_32
