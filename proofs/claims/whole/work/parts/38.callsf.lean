variable {G : GT} {l : Launch} {o : Nat → Nat} {f st tb : Row} {tn : Nat} {nu : Nat → Int64} {bi si : Row} {kp : Nat} {g : Row} {D : DT}
theorem kdS_X3_go : yX3_go.cls ≠ "java/lang/invoke/MethodHandle" ∧ yX3_go.cls ≠ "java/lang/invoke/VarHandle" ∧ (parseMethodDescriptor yX3_go.desc).map (fun d => d.parameters.length) = some 1 := ⟨by decide +kernel, by decide +kernel, by decide +kernel⟩
set_option maxHeartbeats 4000000 in
set_option maxRecDepth 100000 in
theorem c_X10_minutes {x : Int32} (hI : Inv f) (h0 : f 0 ≤ 99999) : Ki G l yX10_minutes cX10_minutes 2 (some .int) (RM 7 135) [.ref (o 0), .int x] (wC G o f st tb tn nu bi si kp g D) (fun u : Row × Row × DT => wC G o u.1 u.2.1 tb tn nu bi si kp g u.2.2) (fun r u => P_minutes f st x r u.1 u.2.1) := by
  refine Ki.of (by decide) (Nat.le_of_ble_eq_true rfl) ?_
  intro p e s m args below meth c A Q ls hx hb S0 hG hA h hret hl
  have S0 : CF p m c cX10_minutes 2 s args RX10 := S0
  have hl : lv_has ls 2 [(0, .ref (o 0)), (1, .int x)] := hl
  refine lv_iload_n hx hb dX10_minutes_0 rfl (lv_at hl 1 rfl) ?_
  refine lv_iconst (v := nI 1) hx hb dX10_minutes_1 (by decide) ?_
  refine lv_sipush (v := nI 200) hx hb dX10_minutes_2 (by decide) ?_
  refine cS_iE S0 hG hA h hl.1 kw_RX10_49 kdS_X10_isOutside (c_X10_isOutside) ⟨rfl, rfl, by decide, by decide, Nat.le_refl _, Nat.le_refl _⟩ rfl rfl (Nat.le_of_ble_eq_true rfl) dX10_minutes_5 (fun r u H locs hq h => ?_)
  have hq : (r = nI 1 ∧ ¬ inR x 1 200) ∨ (r = nI 0 ∧ inR x 1 200) := hq
  rcases hq with ⟨rfl, b5⟩ | ⟨rfl, b5⟩
  ·
    refine n_zeq hx hb (by decide) (tgt := 18) dX10_minutes_8 (by decide) (fun q => absurd q (by decide)) (fun _ => ?_)
    refine lv_aload_n hx hb dX10_minutes_11 rfl (lv_at hl 0 rfl) ?_
    refine lv_ldc (v := -1000000001) hx hb S0.2.2.2.1 (S0.2.2.2.2 _ (rin6 _ (List.mem_of_getElem? (i := 6) rfl))) dX10_minutes_12 ?_
    refine cV_i0 S0 hG hA h hl.1 kw_RX10_58 kdV_X10_tell (c_X10_tell (k := 0) (by decide) (by decide)) ⟨rfl, rfl, by decide, by decide, Nat.le_refl _, Nat.le_refl _⟩ rfl 10 0 rfl rfl rfl (Nat.le_of_ble_eq_true rfl) dX10_minutes_14 (fun _ => rfl) (fun r u H locs hq h => ?_)
    obtain rfl := hq
    exact hret _ (f, bump st 0, D) _ _ _ _ (Or.inr ⟨b5, rfl, rfl, rfl⟩) h dX10_minutes_17
  ·
    obtain ⟨j, rfl, j1, j2⟩ := inR_nat ⟨by have := b5.1; omega, b5.2⟩
    have j0 := (inR_n (by omega)).mp b5
    refine n_zeq hx hb (by decide) (tgt := 18) dX10_minutes_8 (by decide) (fun _ => ?_) (fun q => absurd q (by decide))
    refine lv_aload_n hx hb dX10_minutes_18 rfl (lv_at hl 0 rfl) ?_
    refine gC_present S0 hG h dX10_minutes_19 ?_
    refine kPg_minute S0 hG h dX10_minutes_22 ?_
    refine lv_iload_n hx hb dX10_minutes_25 rfl (lv_at hl 1 rfl) ?_
    refine n_add hx hb dX10_minutes_26 ?_
    refine lv_ldc (v := nI 99999) hx hb S0.2.2.2.1 (S0.2.2.2.2 _ (rin20 _ (List.mem_of_getElem? (i := 16) rfl))) dX10_minutes_27 ?_
    refine n_cle hx hb (by omega) (by omega) (tgt := 39) dX10_minutes_29 (by decide) (fun c29 => ?_) (fun c29 => ?_)
    ·
      refine lv_aload_n hx hb dX10_minutes_39 rfl (lv_at hl 0 rfl) ?_
      refine gC_present S0 hG h dX10_minutes_40 ?_
      refine lv_iload_n hx hb dX10_minutes_43 rfl (lv_at hl 1 rfl) ?_
      refine cN_vC (w2 := fun u => wC G o (goF f j) st tb tn nu bi si kp g (u, D.2)) S0 hG hA h hl.1 (ws_ok (rin20 _ (List.mem_of_getElem? (i := 20) rfl))) (rin2 _ (List.mem_of_getElem? (i := 3) rfl)) (rin20 _ (List.mem_of_getElem? (i := 18) rfl)) (rin20 _ (List.mem_of_getElem? (i := 19) rfl)) (host := "ComposedInterval") (List.mem_of_getElem? (i := 54) rfl) kdS_X3_go (c_X3_go (a := aP o) (f := f) (q := D.1.1) (sp := D.1.2.1) (rg := D.1.2.2.1) (wd := D.1.2.2.2.1) (it := D.1.2.2.2.2) hI (by omega)) ⟨rfl, rfl, by decide, by decide, Nat.le_refl _, Nat.le_refl _⟩ rfl 3 1 rfl rfl [1, 2, 3, 4, 5, 6, 7, 8, 9, 10, 11, 12, 13, 14, 15, 16] (by decide) rfl rfl rfl (Nat.le_of_ble_eq_true rfl) dX10_minutes_44 (fun _ H1 hk hP1 => WX.back h [1, 2, 3, 4, 5, 6, 7, 8, 9, 10, 11, 12, 13, 14, 15, 16] rfl hk hP1 (fit_P)) (fun _ => rfl) (fun u H locs hq h => ?_)
      obtain ⟨u1, u2, u3, u4, u5⟩ := u
      obtain ⟨_, hq⟩ := hq
      obtain rfl : u5 = _ := hq (by omega)
      refine lv_aload_n hx hb dX10_minutes_47 rfl (lv_at hl 0 rfl) ?_
      refine gC_present S0 hG h dX10_minutes_48 ?_
      refine kPg_inTime S0 hG h dX10_minutes_51 ?_
      exact hret _ (goF f j, st, ((u1, u2, u3, u4, timeF (goF f (j - 1))), D.2)) _ _ _ _ (Or.inl ⟨b5, Or.inr ⟨by rw [nt_nI j2]; omega, by rw [nt_nI j2], by rw [nt_nI j2], rfl⟩⟩) h dX10_minutes_54
    ·
      refine lv_aload_n hx hb dX10_minutes_32 rfl (lv_at hl 0 rfl) ?_
      refine lv_ldc (v := -1000000005) hx hb S0.2.2.2.1 (S0.2.2.2.2 _ (rin20 _ (List.mem_of_getElem? (i := 17) rfl))) dX10_minutes_33 ?_
      refine cV_i0 S0 hG hA h hl.1 kw_RX10_58 kdV_X10_tell (c_X10_tell (k := 4) (by decide) (by decide)) ⟨rfl, rfl, by decide, by decide, Nat.le_refl _, Nat.le_refl _⟩ rfl 10 0 rfl rfl rfl (Nat.le_of_ble_eq_true rfl) dX10_minutes_35 (fun _ => rfl) (fun r u H locs hq h => ?_)
      obtain rfl := hq
      exact hret _ (f, bump st 4, D) _ _ _ _ (Or.inl ⟨b5, Or.inl ⟨by rw [nt_nI j2]; omega, rfl, rfl, rfl⟩⟩) h dX10_minutes_38
