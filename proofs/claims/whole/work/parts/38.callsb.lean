variable {G : GT} {l : Launch} {o : Nat → Nat} {f st tb : Row} {tn : Nat} {nu : Nat → Int64} {bi si : Row} {kp : Nat} {g : Row} {D : DT}
set_option maxHeartbeats 4000000 in
set_option maxRecDepth 100000 in
theorem c_X10_bell {x y : Int32} : Ki G l yX10_bell cX10_bell 4 (some .int) (RM 2 22) [.ref (o 0), .int x, .int y] (wC G o f st tb tn nu bi si kp g D) (fun u : Row × Row × DT => wC G o u.1 u.2.1 tb tn nu bi si kp g u.2.2) (fun r u => P_bell f st x y r u.1 u.2.1) := by
  refine Ki.of (by decide) (Nat.le_of_ble_eq_true rfl) ?_
  intro p e s m args below meth c A Q ls hx hb S0 hG hA h hret hl
  have S0 : CF p m c cX10_bell 4 s args RX10 := S0
  have hl : lv_has ls 4 [(0, .ref (o 0)), (1, .int x), (2, .int y)] := hl
  refine lv_iload_n hx hb dX10_bell_0 rfl (lv_at hl 1 rfl) ?_
  refine lv_iconst (v := nI 0) hx hb dX10_bell_1 (by decide) ?_
  refine lv_iconst (v := nI 2) hx hb dX10_bell_2 (by decide) ?_
  refine cS_iE S0 hG hA h hl.1 kw_RX10_49 kdS_X10_isOutside (c_X10_isOutside) ⟨rfl, rfl, by decide, by decide, Nat.le_refl _, Nat.le_refl _⟩ rfl rfl (Nat.le_of_ble_eq_true rfl) dX10_bell_3 (fun r u H locs hq h => ?_)
  have hq : (r = nI 1 ∧ ¬ inR x 0 2) ∨ (r = nI 0 ∧ inR x 0 2) := hq
  rcases hq with ⟨rfl, b3⟩ | ⟨rfl, b3⟩
  ·
    refine n_zne hx hb (by decide) (tgt := 19) dX10_bell_6 (by decide) (fun _ => ?_) (fun q => absurd q (by decide))
    refine lv_aload_n hx hb dX10_bell_19 rfl (lv_at hl 0 rfl) ?_
    refine lv_ldc (v := -1000000001) hx hb S0.2.2.2.1 (S0.2.2.2.2 _ (rin6 _ (List.mem_of_getElem? (i := 6) rfl))) dX10_bell_20 ?_
    refine cV_i0 S0 hG hA h hl.1 kw_RX10_58 kdV_X10_tell (c_X10_tell (k := 0) (by decide) (by decide)) ⟨rfl, rfl, by decide, by decide, Nat.le_refl _, Nat.le_refl _⟩ rfl 10 0 rfl rfl rfl (Nat.le_of_ble_eq_true rfl) dX10_bell_22 (fun _ => rfl) (fun r u H locs hq h => ?_)
    obtain rfl := hq
    exact hret _ (f, bump st 0, D) _ _ _ _ (Or.inr ⟨fun q9 => b3 q9.1, rfl, rfl, rfl⟩) h dX10_bell_25
  ·
    refine n_zne hx hb (by decide) (tgt := 19) dX10_bell_6 (by decide) (fun q => absurd q (by decide)) (fun _ => ?_)
    refine lv_iload_n hx hb dX10_bell_9 rfl (lv_at hl 2 rfl) ?_
    refine lv_iconst (v := nI 0) hx hb dX10_bell_10 (by decide) ?_
    refine lv_bipush (v := nI 47) hx hb dX10_bell_11 (by decide) ?_
    refine cS_iE S0 hG hA h hl.1 kw_RX10_49 kdS_X10_isOutside (c_X10_isOutside) ⟨rfl, rfl, by decide, by decide, Nat.le_refl _, Nat.le_refl _⟩ rfl rfl (Nat.le_of_ble_eq_true rfl) dX10_bell_13 (fun r u H locs hq h => ?_)
    have hq : (r = nI 1 ∧ ¬ inR y 0 47) ∨ (r = nI 0 ∧ inR y 0 47) := hq
    rcases hq with ⟨rfl, b13⟩ | ⟨rfl, b13⟩
    ·
      refine n_zeq hx hb (by decide) (tgt := 26) dX10_bell_16 (by decide) (fun q => absurd q (by decide)) (fun _ => ?_)
      refine lv_aload_n hx hb dX10_bell_19 rfl (lv_at hl 0 rfl) ?_
      refine lv_ldc (v := -1000000001) hx hb S0.2.2.2.1 (S0.2.2.2.2 _ (rin6 _ (List.mem_of_getElem? (i := 6) rfl))) dX10_bell_20 ?_
      refine cV_i0 S0 hG hA h hl.1 kw_RX10_58 kdV_X10_tell (c_X10_tell (k := 0) (by decide) (by decide)) ⟨rfl, rfl, by decide, by decide, Nat.le_refl _, Nat.le_refl _⟩ rfl 10 0 rfl rfl rfl (Nat.le_of_ble_eq_true rfl) dX10_bell_22 (fun _ => rfl) (fun r u H locs hq h => ?_)
      obtain rfl := hq
      exact hret _ (f, bump st 0, D) _ _ _ _ (Or.inr ⟨fun q9 => b13 q9.2, rfl, rfl, rfl⟩) h dX10_bell_25
    ·
      obtain ⟨jx, rfl, jx1, jx2⟩ := inR_nat b3
      obtain ⟨jy, rfl, jy1, jy2⟩ := inR_nat b13
      refine n_zeq hx hb (by decide) (tgt := 26) dX10_bell_16 (by decide) (fun _ => ?_) (fun q => absurd q (by decide))
      refine lv_aload_n hx hb dX10_bell_26 rfl (lv_at hl 0 rfl) ?_
      refine gC_present S0 hG h dX10_bell_27 ?_
      refine kPg_bells S0 hG h dX10_bell_30 ?_
      refine lv_iload_n hx hb dX10_bell_33 rfl (lv_at hl 1 rfl) ?_
      refine kPr_bells S0 hG h (by omega) dX10_bell_34 ?_
      refine lv_istore_n hx hb dX10_bell_35 rfl hl (by decide) rfl (fun ls hl => ?_)
      refine lv_aload_n hx hb dX10_bell_36 rfl (lv_at hl 1 rfl) ?_
      refine gC_present S0 hG h dX10_bell_37 ?_
      refine kPg_bells S0 hG h dX10_bell_40 ?_
      refine lv_iload_n hx hb dX10_bell_43 rfl (lv_at hl 2 rfl) ?_
      refine lv_iload_n hx hb dX10_bell_44 rfl (lv_at hl 3 rfl) ?_
      refine kPs_bells S0 hG h (by omega) dX10_bell_45 (fun H locs h => ?_)
      refine lv_iload_n hx hb dX10_bell_46 rfl (lv_at hl 0 rfl) ?_
      exact hret _ (va_up f (8 + jx) jy, st, D) _ _ _ _ (Or.inl ⟨⟨b3, b13⟩, by rw [nt_nI jx2]; rfl, by rw [nt_nI jx2, nt_nI jy2], rfl⟩) h dX10_bell_47
