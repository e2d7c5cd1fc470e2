variable {G : GT} {l : Launch} {o : Nat → Nat} {f st tb : Row} {tn : Nat} {nu : Nat → Int64} {bi si : Row} {kp : Nat} {g : Row} {D : DT}
theorem kdS_X3_whoIsAt : yX3_whoIsAt.cls ≠ "java/lang/invoke/MethodHandle" ∧ yX3_whoIsAt.cls ≠ "java/lang/invoke/VarHandle" ∧ (parseMethodDescriptor yX3_whoIsAt.desc).map (fun d => d.parameters.length) = some 1 := ⟨by decide +kernel, by decide +kernel, by decide +kernel⟩
set_option maxHeartbeats 4000000 in
set_option maxRecDepth 100000 in
theorem c_X10_who {x : Int32} (hI : Inv f) : Ki G l yX10_who cX10_who 2 (some .int) (RM 3 42) [.ref (o 0), .int x] (wC G o f st tb tn nu bi si kp g D) (fun u : Row × DT => wC G o f u.1 tb tn nu bi si kp g u.2) (fun r u => P_who f st x r u.1) := by
  refine Ki.of (by decide) (Nat.le_of_ble_eq_true rfl) ?_
  intro p e s m args below meth c A Q ls hx hb S0 hG hA h hret hl
  have S0 : CF p m c cX10_who 2 s args RX10 := S0
  have hl : lv_has ls 2 [(0, .ref (o 0)), (1, .int x)] := hl
  refine lv_iload_n hx hb dX10_who_0 rfl (lv_at hl 1 rfl) ?_
  refine cS_iE S0 hG hA h hl.1 kw_RX10_53 kdS_X10_isNoSpot (c_X10_isNoSpot) ⟨rfl, rfl, by decide, by decide, Nat.le_refl _, Nat.le_refl _⟩ rfl rfl (Nat.le_of_ble_eq_true rfl) dX10_who_1 (fun r u H locs hq h => ?_)
  rcases hq with ⟨rfl, b1⟩ | ⟨rfl, b1⟩
  ·
    refine n_zeq hx hb (by decide) (tgt := 14) dX10_who_4 (by decide) (fun q => absurd q (by decide)) (fun _ => ?_)
    refine lv_aload_n hx hb dX10_who_7 rfl (lv_at hl 0 rfl) ?_
    refine lv_ldc (v := -1000000001) hx hb S0.2.2.2.1 (S0.2.2.2.2 _ (rin6 _ (List.mem_of_getElem? (i := 6) rfl))) dX10_who_8 ?_
    refine cV_i0 S0 hG hA h hl.1 kw_RX10_58 kdV_X10_tell (c_X10_tell (k := 0) (by decide) (by decide)) ⟨rfl, rfl, by decide, by decide, Nat.le_refl _, Nat.le_refl _⟩ rfl 10 0 rfl rfl rfl (Nat.le_of_ble_eq_true rfl) dX10_who_10 (fun _ => rfl) (fun r u H locs hq h => ?_)
    obtain rfl := hq
    exact hret _ (bump st 0, D) _ _ _ _ (Or.inr ⟨b1, rfl, rfl⟩) h dX10_who_13
  ·
    obtain ⟨j, rfl, j1, j2⟩ := inR_nat b1
    refine n_zeq hx hb (by decide) (tgt := 14) dX10_who_4 (by decide) (fun _ => ?_) (fun q => absurd q (by decide))
    refine lv_aload_n hx hb dX10_who_14 rfl (lv_at hl 0 rfl) ?_
    refine gC_present S0 hG h dX10_who_15 ?_
    refine lv_iload_n hx hb dX10_who_18 rfl (lv_at hl 1 rfl) ?_
    refine cN_iC (w2 := fun u => wC G o f st tb tn nu bi si kp g D) S0 hG hA h hl.1 (ws_ok (rin13 _ (List.mem_of_getElem? (i := 19) rfl))) (rin2 _ (List.mem_of_getElem? (i := 3) rfl)) (rin13 _ (List.mem_of_getElem? (i := 17) rfl)) (rin13 _ (List.mem_of_getElem? (i := 18) rfl)) (host := "ComposedInterval") (List.mem_of_getElem? (i := 48) rfl) kdS_X3_whoIsAt (c_X3_whoIsAt (a := aP o) (f := f) (q := D.1.1) (sp := D.1.2.1) (rg := D.1.2.2.1) (wd := D.1.2.2.2.1) (it := D.1.2.2.2.2) hI j2) ⟨rfl, rfl, by decide, by decide, Nat.le_refl _, Nat.le_refl _⟩ rfl 3 1 rfl rfl [1, 2, 3, 4, 5, 6, 7, 8, 9, 10, 11, 12, 13, 14, 15, 16] (by decide) rfl rfl rfl (Nat.le_of_ble_eq_true rfl) dX10_who_19 (fun _ H1 hk hP1 => WX.back h [1, 2, 3, 4, 5, 6, 7, 8, 9, 10, 11, 12, 13, 14, 15, 16] rfl hk hP1 fit_P) (fun _ => rfl) (fun r u H locs hq h => ?_)
    obtain rfl := hq
    exact hret _ (st, D) _ _ _ _ (Or.inl ⟨b1, by rw [nt_nI j2], rfl⟩) h dX10_who_22
