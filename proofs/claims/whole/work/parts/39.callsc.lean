variable {G : GT} {l : Launch} {o : Nat → Nat} {f st tb : Row} {tn : Nat} {nu : Nat → Int64} {bi si : Row} {kp : Nat} {g : Row} {D : DT}
theorem kw_RX10_147 : GoodIn wsL_law (va_wsS RX10 147 yX10_isOfKind (WS yX10_isOfKind cX10_isOfKind 4 (some .boolean))) := gS (rin20 _ (List.mem_of_getElem? (i := 0) rfl)) (rin20 _ (List.mem_of_getElem? (i := 1) rfl)) (rin1 _ (List.mem_of_getElem? (i := 2) rfl)) (rin20 _ (List.mem_of_getElem? (i := 2) rfl))
theorem kdS_X10_isOfKind : yX10_isOfKind.cls ≠ "java/lang/invoke/MethodHandle" ∧ yX10_isOfKind.cls ≠ "java/lang/invoke/VarHandle" ∧ (parseMethodDescriptor yX10_isOfKind.desc).map (fun d => d.parameters.length) = some 2 := ⟨by decide +kernel, by decide +kernel, by decide +kernel⟩
set_option maxHeartbeats 4000000 in
set_option maxRecDepth 100000 in
theorem c_X10_as {x y : Int32} (hI : Inv f) : Ki G l yX10_as cX10_as 3 (some .int) (RM 3 42) [.ref (o 0), .int x, .int y] (wC G o f st tb tn nu bi si kp g D) (fun u : Row × DT => wC G o f u.1 tb tn nu bi si kp g u.2) (fun r u => P_as f st x y r u.1) := by
  refine Ki.of (by decide) (Nat.le_of_ble_eq_true rfl) ?_
  intro p e s m args below meth c A Q ls hx hb S0 hG hA h hret hl
  have S0 : CF p m c cX10_as 3 s args RX10 := S0
  have hl : lv_has ls 3 [(0, .ref (o 0)), (1, .int x), (2, .int y)] := hl
  have h8 := hI.2.1
  refine lv_aload_n hx hb dX10_as_0 rfl (lv_at hl 0 rfl) ?_
  refine lv_iload_n hx hb dX10_as_1 rfl (lv_at hl 1 rfl) ?_
  refine cV_i0 S0 hG hA h hl.1 kw_RX10_106 kdV_X10_isNobody (c_X10_isNobody hI.2.1) ⟨rfl, rfl, by decide, by decide, Nat.le_refl _, Nat.le_refl _⟩ rfl 10 0 rfl rfl rfl (Nat.le_of_ble_eq_true rfl) dX10_as_2 (fun _ => rfl) (fun r u H locs hq h => ?_)
  rcases hq with ⟨rfl, b2⟩ | ⟨rfl, b2⟩
  ·
    refine n_zne hx hb (by decide) (tgt := 15) dX10_as_5 (by decide) (fun _ => ?_) (fun q => absurd q (by decide))
    refine lv_aload_n hx hb dX10_as_15 rfl (lv_at hl 0 rfl) ?_
    refine lv_ldc (v := -1000000001) hx hb S0.2.2.2.1 (S0.2.2.2.2 _ (rin6 _ (List.mem_of_getElem? (i := 6) rfl))) dX10_as_16 ?_
    refine cV_i0 S0 hG hA h hl.1 kw_RX10_58 kdV_X10_tell (c_X10_tell (k := 0) (by decide) (by decide)) ⟨rfl, rfl, by decide, by decide, Nat.le_refl _, Nat.le_refl _⟩ rfl 10 0 rfl rfl rfl (Nat.le_of_ble_eq_true rfl) dX10_as_18 (fun _ => rfl) (fun r u H locs hq h => ?_)
    obtain rfl := hq
    exact hret _ (bump st 0, D) _ _ _ _ (Or.inr ⟨fun q9 => b2 q9.1, rfl, rfl⟩) h dX10_as_21
  ·
    refine n_zne hx hb (by decide) (tgt := 15) dX10_as_5 (by decide) (fun q => absurd q (by decide)) (fun _ => ?_)
    refine lv_iload_n hx hb dX10_as_8 rfl (lv_at hl 2 rfl) ?_
    refine cS_iE S0 hG hA h hl.1 kw_RX10_95 kdS_X10_isNoKind (c_X10_isNoKind) ⟨rfl, rfl, by decide, by decide, Nat.le_refl _, Nat.le_refl _⟩ rfl rfl (Nat.le_of_ble_eq_true rfl) dX10_as_9 (fun r u H locs hq h => ?_)
    rcases hq with ⟨rfl, b9⟩ | ⟨rfl, b9⟩
    ·
      refine n_zeq hx hb (by decide) (tgt := 22) dX10_as_12 (by decide) (fun q => absurd q (by decide)) (fun _ => ?_)
      refine lv_aload_n hx hb dX10_as_15 rfl (lv_at hl 0 rfl) ?_
      refine lv_ldc (v := -1000000001) hx hb S0.2.2.2.1 (S0.2.2.2.2 _ (rin6 _ (List.mem_of_getElem? (i := 6) rfl))) dX10_as_16 ?_
      refine cV_i0 S0 hG hA h hl.1 kw_RX10_58 kdV_X10_tell (c_X10_tell (k := 0) (by decide) (by decide)) ⟨rfl, rfl, by decide, by decide, Nat.le_refl _, Nat.le_refl _⟩ rfl 10 0 rfl rfl rfl (Nat.le_of_ble_eq_true rfl) dX10_as_18 (fun _ => rfl) (fun r u H locs hq h => ?_)
      obtain rfl := hq
      exact hret _ (bump st 0, D) _ _ _ _ (Or.inr ⟨fun q9 => b9 q9.2, rfl, rfl⟩) h dX10_as_21
    ·
      obtain ⟨jx, rfl, jx1, jx2⟩ := inR_nat (hi := (f 1 : Int) - 1) b2
      obtain ⟨jy, rfl, jy1, jy2⟩ := inR_nat b9
      have k5 := (hI.2.2.2.2 jx (by omega)).1
      refine n_zeq hx hb (by decide) (tgt := 22) dX10_as_12 (by decide) (fun _ => ?_) (fun q => absurd q (by decide))
      refine lv_aload_n hx hb dX10_as_22 rfl (lv_at hl 0 rfl) ?_
      refine gC_present S0 hG h dX10_as_23 ?_
      refine kPg_kind S0 hG h dX10_as_26 ?_
      refine lv_iload_n hx hb dX10_as_29 rfl (lv_at hl 1 rfl) ?_
      refine kPr_kind S0 hG h (by omega) dX10_as_30 ?_
      refine lv_iload_n hx hb dX10_as_31 rfl (lv_at hl 2 rfl) ?_
      refine cS_iE S0 hG hA h hl.1 kw_RX10_147 kdS_X10_isOfKind (c_X10_isOfKind k5 (by omega)) ⟨rfl, rfl, by decide, by decide, Nat.le_refl _, Nat.le_refl _⟩ rfl rfl (Nat.le_of_ble_eq_true rfl) dX10_as_32 (fun r u H locs hq h => ?_)
      rcases hq with ⟨rfl, b32⟩ | ⟨rfl, b32⟩
      ·
        refine n_zne hx hb (by decide) (tgt := 45) dX10_as_35 (by decide) (fun _ => ?_) (fun q => absurd q (by decide))
        refine lv_aload_n hx hb dX10_as_45 rfl (lv_at hl 0 rfl) ?_
        refine gC_present S0 hG h dX10_as_46 ?_
        refine kPg_played S0 hG h dX10_as_49 ?_
        refine lv_iload_n hx hb dX10_as_52 rfl (lv_at hl 1 rfl) ?_
        refine kPr_played S0 hG h (by omega) dX10_as_53 ?_
        exact hret _ (st, D) _ _ _ _ (Or.inl ⟨⟨b2, b9⟩, Or.inl ⟨by rw [nt_nI jx2, nt_nI jy2]; exact b32, by rw [nt_nI jx2], rfl⟩⟩) h dX10_as_54
      ·
        refine n_zne hx hb (by decide) (tgt := 45) dX10_as_35 (by decide) (fun q => absurd q (by decide)) (fun _ => ?_)
        refine lv_aload_n hx hb dX10_as_38 rfl (lv_at hl 0 rfl) ?_
        refine lv_ldc (v := -1000000003) hx hb S0.2.2.2.1 (S0.2.2.2.2 _ (rin19 _ (List.mem_of_getElem? (i := 23) rfl))) dX10_as_39 ?_
        refine cV_i0 S0 hG hA h hl.1 kw_RX10_58 kdV_X10_tell (c_X10_tell (k := 2) (by decide) (by decide)) ⟨rfl, rfl, by decide, by decide, Nat.le_refl _, Nat.le_refl _⟩ rfl 10 0 rfl rfl rfl (Nat.le_of_ble_eq_true rfl) dX10_as_41 (fun _ => rfl) (fun r u H locs hq h => ?_)
        obtain rfl := hq
        exact hret _ (bump st 2, D) _ _ _ _ (Or.inl ⟨⟨b2, b9⟩, Or.inr ⟨by rw [nt_nI jx2, nt_nI jy2]; exact b32, rfl, rfl⟩⟩) h dX10_as_44
