variable {G : GT} {l : Launch} {o : Nat → Nat} {f st tb : Row} {tn : Nat} {nu : Nat → Int64} {bi si : Row} {kp : Nat} {g : Row} {D : DT}
theorem kw_RX10_194 : GoodIn wsL_law (wsV RX10 194 RX10 yX10_sheetFinding (WS yX10_sheetFinding cX10_sheetFinding 2 (some .int))) := gV (rin36 _ (List.mem_of_getElem? (i := 21) rfl)) (rin36 _ (List.mem_of_getElem? (i := 22) rfl)) (rin36 _ (List.mem_of_getElem? (i := 23) rfl)) (rin1 _ (List.mem_of_getElem? (i := 2) rfl)) (rin37 _ (List.mem_of_getElem? (i := 0) rfl))
theorem kdV_X10_sheetFinding : yX10_sheetFinding.cls = RX10 ∧ yX10_sheetFinding.cls ≠ "java/lang/invoke/MethodHandle" ∧ yX10_sheetFinding.cls ≠ "java/lang/invoke/VarHandle" ∧ (parseMethodDescriptor yX10_sheetFinding.desc).map (fun d => d.parameters.length) = some 1 := ⟨rfl, by decide +kernel, by decide +kernel, by decide +kernel⟩
theorem kdS_X7_narrow : yX7_narrow.cls ≠ "java/lang/invoke/MethodHandle" ∧ yX7_narrow.cls ≠ "java/lang/invoke/VarHandle" ∧ (parseMethodDescriptor yX7_narrow.desc).map (fun d => d.parameters.length) = some 1 := ⟨by decide +kernel, by decide +kernel, by decide +kernel⟩
set_option maxHeartbeats 4000000 in
set_option maxRecDepth 100000 in
theorem c_X10_write {x y : Int32} {v : Int64} (hSh : ShI bi si) : Kl G l yX10_write cX10_write 8 (some .long) (RM 4 63) [.ref (o 0), .int x, .int y, .long v] (wC G o f st tb tn nu bi si kp g D) (fun u : (Nat → Int64) × Row => wC G o f u.2 tb tn u.1 bi si kp g D) (fun r u => P_write bi si nu st x y v r u.1 u.2) := by
  refine Kl.of (by decide) (Nat.le_of_ble_eq_true rfl) ?_
  intro p e s m args below meth c A Q ls hx hb S0 hG hA h hret hl
  have S0 : CF p m c cX10_write 8 s args RX10 := S0
  have hl : lv_has ls 8 [(0, .ref (o 0)), (1, .int x), (2, .int y), (3, .long v)] := hl
  refine lv_aload_n hx hb dX10_write_0 rfl (lv_at hl 0 rfl) ?_
  refine lv_iload_n hx hb dX10_write_1 rfl (lv_at hl 1 rfl) ?_
  refine cV_i0 S0 hG hA h hl.1 kw_RX10_194 kdV_X10_sheetFinding (c_X10_sheetFinding hSh) ⟨rfl, rfl, by decide, by decide, Nat.le_refl _, Nat.le_refl _⟩ rfl 10 0 rfl rfl rfl (Nat.le_of_ble_eq_true rfl) dX10_write_2 (fun _ => rfl) (fun r u H locs hq h => ?_)
  rcases hq with ⟨rfl, b2⟩ | ⟨rfl, b2, m2⟩ | ⟨rfl, b2, m2⟩
  ·
    refine lv_istore hx hb dX10_write_5 hl (by decide) rfl (fun ls hl => ?_)
    refine lv_iload hx hb dX10_write_7 (lv_at hl 0 rfl) ?_
    refine lv_if_eq hx hb (tgt := 20) dX10_write_9 (by decide) (fun c9 => absurd c9 (by decide)) (fun c9 => ?_)
    refine lv_aload_n hx hb dX10_write_12 rfl (lv_at hl 1 rfl) ?_
    refine lv_iload hx hb dX10_write_13 (lv_at hl 0 rfl) ?_
    refine cV_i0 S0 hG hA h hl.1 kw_RX10_58 kdV_X10_tell (c_X10_tell (k := 0) (by decide) (by decide)) ⟨rfl, rfl, by decide, by decide, Nat.le_refl _, Nat.le_refl _⟩ rfl 10 0 rfl rfl rfl (Nat.le_of_ble_eq_true rfl) dX10_write_15 (fun _ => rfl) (fun r u H locs hq h => ?_)
    obtain rfl := hq
    refine lv_i2l hx hb dX10_write_18 rfl ?_
    exact hret _ (nu, bump st 0) _ _ _ _ (Or.inl ⟨b2, rfl, rfl, rfl⟩) h dX10_write_19
  ·
    refine lv_istore hx hb dX10_write_5 hl (by decide) rfl (fun ls hl => ?_)
    refine lv_iload hx hb dX10_write_7 (lv_at hl 0 rfl) ?_
    refine lv_if_eq hx hb (tgt := 20) dX10_write_9 (by decide) (fun c9 => absurd c9 (by decide)) (fun c9 => ?_)
    refine lv_aload_n hx hb dX10_write_12 rfl (lv_at hl 1 rfl) ?_
    refine lv_iload hx hb dX10_write_13 (lv_at hl 0 rfl) ?_
    refine cV_i0 S0 hG hA h hl.1 kw_RX10_58 kdV_X10_tell (c_X10_tell (k := 5) (by decide) (by decide)) ⟨rfl, rfl, by decide, by decide, Nat.le_refl _, Nat.le_refl _⟩ rfl 10 0 rfl rfl rfl (Nat.le_of_ble_eq_true rfl) dX10_write_15 (fun _ => rfl) (fun r u H locs hq h => ?_)
    obtain rfl := hq
    refine lv_i2l hx hb dX10_write_18 rfl ?_
    exact hret _ (nu, bump st 5) _ _ _ _ (Or.inr (Or.inl ⟨⟨b2, m2⟩, rfl, rfl, rfl⟩)) h dX10_write_19
  ·
    obtain ⟨jx, rfl, jx1, jx2⟩ := inR_nat b2
    rw [nt_nI jx2] at m2
    have s9 := hSh jx (by omega)
    refine lv_istore hx hb dX10_write_5 hl (by decide) rfl (fun ls hl => ?_)
    refine lv_iload hx hb dX10_write_7 (lv_at hl 0 rfl) ?_
    refine n_zeq hx hb (by decide) (tgt := 20) dX10_write_9 (by decide) (fun _ => ?_) (fun q => absurd q (by decide))
    refine lv_iload_n hx hb dX10_write_20 rfl (lv_at hl 3 rfl) ?_
    refine lv_iconst (v := nI 0) hx hb dX10_write_21 (by decide) ?_
    refine lv_aload_n hx hb dX10_write_22 rfl (lv_at hl 1 rfl) ?_
    refine gC_sheets S0 hG h dX10_write_23 ?_
    refine lv_iload_n hx hb dX10_write_26 rfl (lv_at hl 2 rfl) ?_
    refine aC_sheets S0 hG h (by omega) dX10_write_27 ?_
    refine gSh_size (x := jx) (by omega) S0 hG h dX10_write_28 ?_
    refine lv_iconst (v := nI 1) hx hb dX10_write_31 (by decide) ?_
    refine lv_isub hx hb dX10_write_32 ?_
    refine cS_iE S0 hG hA h hl.1 kw_RX10_49 kdS_X10_isOutside (c_X10_isOutside) ⟨rfl, rfl, by decide, by decide, Nat.le_refl _, Nat.le_refl _⟩ rfl rfl (Nat.le_of_ble_eq_true rfl) dX10_write_33 (fun r u H locs hq h => ?_)
    have e9 : (nI (si jx) - nI 1).toInt = (si jx : Int) - 1 := pk_sub_toInt (by omega) (by omega)
    have hq : (r = nI 1 ∧ ¬ inR y 0 ((si jx : Int) - 1)) ∨ (r = nI 0 ∧ inR y 0 ((si jx : Int) - 1)) := by rw [← e9]; exact hq
    rcases hq with ⟨rfl, b33⟩ | ⟨rfl, b33⟩
    ·
      refine n_zeq hx hb (by decide) (tgt := 47) dX10_write_36 (by decide) (fun q => absurd q (by decide)) (fun _ => ?_)
      refine lv_aload_n hx hb dX10_write_39 rfl (lv_at hl 1 rfl) ?_
      refine lv_ldc (v := -1000000001) hx hb S0.2.2.2.1 (S0.2.2.2.2 _ (rin6 _ (List.mem_of_getElem? (i := 6) rfl))) dX10_write_40 ?_
      refine cV_i0 S0 hG hA h hl.1 kw_RX10_58 kdV_X10_tell (c_X10_tell (k := 0) (by decide) (by decide)) ⟨rfl, rfl, by decide, by decide, Nat.le_refl _, Nat.le_refl _⟩ rfl 10 0 rfl rfl rfl (Nat.le_of_ble_eq_true rfl) dX10_write_42 (fun _ => rfl) (fun r u H locs hq h => ?_)
      obtain rfl := hq
      refine lv_i2l hx hb dX10_write_45 rfl ?_
      exact hret _ (nu, bump st 0) _ _ _ _ (Or.inr (Or.inr ⟨⟨b2, by rw [nt_nI jx2]; exact m2⟩, Or.inr ⟨by rw [nt_nI jx2]; exact b33, rfl, rfl, rfl⟩⟩)) h dX10_write_46
    ·
      obtain ⟨jy, rfl, jy1, jy2⟩ := inR_nat b33
      refine n_zeq hx hb (by decide) (tgt := 47) dX10_write_36 (by decide) (fun _ => ?_) (fun q => absurd q (by decide))
      refine lv_aload_n hx hb dX10_write_47 rfl (lv_at hl 1 rfl) ?_
      refine gC_sheets S0 hG h dX10_write_48 ?_
      refine lv_iload_n hx hb dX10_write_51 rfl (lv_at hl 2 rfl) ?_
      refine aC_sheets S0 hG h (by omega) dX10_write_52 ?_
      refine gSh_numbers (x := jx) (by omega) S0 hG h dX10_write_53 ?_
      refine lv_iload_n hx hb dX10_write_56 rfl (lv_at hl 3 rfl) ?_
      refine rSh_numbers (by omega) S0 hG h (by omega) dX10_write_57 ?_
      refine lv_lstore hx hb dX10_write_58 hl (by decide) rfl (fun ls hl => ?_)
      refine lv_aload_n hx hb dX10_write_60 rfl (lv_at hl 2 rfl) ?_
      refine gC_sheets S0 hG h dX10_write_61 ?_
      refine lv_iload_n hx hb dX10_write_64 rfl (lv_at hl 3 rfl) ?_
      refine aC_sheets S0 hG h (by omega) dX10_write_65 ?_
      refine gSh_numbers (x := jx) (by omega) S0 hG h dX10_write_66 ?_
      refine lv_iload_n hx hb dX10_write_69 rfl (lv_at hl 4 rfl) ?_
      refine lv_aload_n hx hb dX10_write_70 rfl (lv_at hl 2 rfl) ?_
      refine gC_sheets S0 hG h dX10_write_71 ?_
      refine lv_iload_n hx hb dX10_write_74 rfl (lv_at hl 3 rfl) ?_
      refine aC_sheets S0 hG h (by omega) dX10_write_75 ?_
      refine lv_lload_n hx hb dX10_write_76 rfl (lv_at hl 5 rfl) ?_
      refine cN_lC (w2 := fun _ => wC G o f st tb tn nu bi si kp g D) S0 hG hA h hl.1 (ws_ok (rin37 _ (List.mem_of_getElem? (i := 7) rfl))) (rin2 _ (List.mem_of_getElem? (i := 8) rfl)) (rin37 _ (List.mem_of_getElem? (i := 5) rfl)) (rin37 _ (List.mem_of_getElem? (i := 6) rfl)) (host := "ComposedInterval") (List.mem_of_getElem? (i := 63) rfl) kdS_X7_narrow (c_X7_narrow (a := aSh o jx) (nu := fun k => nu (40 * jx + k)) (bb := bi jx) (ss := si jx) (by omega)) ⟨rfl, rfl, by decide, by decide, Nat.le_refl _, Nat.le_refl _⟩ rfl 7 (38 + 2 * jx) rfl (shO (by omega)) (shC jx) (shC_nd (by omega)) (shC_m (by omega)) (shC_f (by omega)) rfl (Nat.le_of_ble_eq_true rfl) dX10_write_77 (fun _ H1 hk hP1 => WX.back h (shC jx) (shC_m (by omega)) hk hP1 (fit_same (shC_m (by omega)))) (fun _ => rfl) (fun r u H locs hq h => ?_)
      obtain rfl := hq
      refine sSh_numbers (by omega) S0 hG h (by omega) dX10_write_80 (fun H locs h => ?_)
      refine lv_lload hx hb dX10_write_81 (lv_at hl 0 rfl) ?_
      exact hret _ (vp_updL nu (40 * jx + jy) (nar (bi jx) v), st) _ _ _ _ (Or.inr (Or.inr ⟨⟨b2, by rw [nt_nI jx2]; exact m2⟩, Or.inl ⟨by rw [nt_nI jx2]; exact b33, by rw [nt_nI jx2, nt_nI jy2], by rw [nt_nI jx2, nt_nI jy2], rfl⟩⟩)) h dX10_write_83
