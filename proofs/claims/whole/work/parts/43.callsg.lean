variable {G : GT} {l : Launch} {o : Nat → Nat} {f st tb : Row} {tn : Nat} {nu : Nat → Int64} {bi si : Row} {kp : Nat} {g : Row} {D : DT}
theorem kdS_X3_sumOf : yX3_sumOf.cls ≠ "java/lang/invoke/MethodHandle" ∧ yX3_sumOf.cls ≠ "java/lang/invoke/VarHandle" ∧ (parseMethodDescriptor yX3_sumOf.desc).map (fun d => d.parameters.length) = some 1 := ⟨by decide +kernel, by decide +kernel, by decide +kernel⟩
set_option maxHeartbeats 4000000 in
set_option maxRecDepth 100000 in
theorem c_X10_count {x : Int32} (hI : Inv f) : Ki G l yX10_count cX10_count 2 (some .int) (RM 2 23) [.ref (o 0), .int x] (wC G o f st tb tn nu bi si kp g D) (fun u : Row => wC G o f u tb tn nu bi si kp g D) (fun r u => P_count f tn st x r u) := by
  refine Ki.of (by decide) (Nat.le_of_ble_eq_true rfl) ?_
  intro p e s m args below meth c A Q ls hx hb S0 hG hA h hret hl
  have S0 : CF p m c cX10_count 2 s args RX10 := S0
  have hl : lv_has ls 2 [(0, .ref (o 0)), (1, .int x)] := hl
  refine lv_iload_n hx hb dX10_count_0 rfl (lv_at hl 1 rfl) ?_
  rcases (show x.toInt = 0 ∨ x.toInt = 1 ∨ x.toInt = 2 ∨ x.toInt = 3 ∨ (x.toInt < 0 ∨ 3 < x.toInt) by omega) with e1 | e1 | e1 | e1 | e1
  ·
    refine i_swIn hx hb e1 (off := 31) (tgt := 32) dX10_count_1 (by decide) (by decide) rfl (by decide) ?_
    refine lv_aload_n hx hb dX10_count_32 rfl (lv_at hl 0 rfl) ?_
    refine gC_present S0 hG h dX10_count_33 ?_
    refine kPg_people S0 hG h dX10_count_36 ?_
    exact hret _ st _ _ _ _ (Or.inl ⟨⟨by omega, by omega⟩, by rw [e1]; rfl, rfl⟩) h dX10_count_39
  ·
    refine i_swIn hx hb e1 (off := 39) (tgt := 40) dX10_count_1 (by decide) (by decide) rfl (by decide) ?_
    refine lv_aload_n hx hb dX10_count_40 rfl (lv_at hl 0 rfl) ?_
    refine gC_tape S0 hG h dX10_count_41 ?_
    refine gC_length S0 hG h dX10_count_44 ?_
    exact hret _ st _ _ _ _ (Or.inl ⟨⟨by omega, by omega⟩, by rw [e1]; rfl, rfl⟩) h dX10_count_47
  ·
    refine i_swIn hx hb e1 (off := 47) (tgt := 48) dX10_count_1 (by decide) (by decide) rfl (by decide) ?_
    refine lv_aload_n hx hb dX10_count_48 rfl (lv_at hl 0 rfl) ?_
    refine gC_present S0 hG h dX10_count_49 ?_
    refine lv_aload_n hx hb dX10_count_52 rfl (lv_at hl 0 rfl) ?_
    refine gC_present S0 hG h dX10_count_53 ?_
    refine kPg_played S0 hG h dX10_count_56 ?_
    refine cN_iC (w2 := fun u => wC G o f st tb tn nu bi si kp g D) S0 hG hA h hl.1 (ws_ok (rin11 _ (List.mem_of_getElem? (i := 16) rfl))) (rin2 _ (List.mem_of_getElem? (i := 3) rfl)) (rin11 _ (List.mem_of_getElem? (i := 14) rfl)) (rin11 _ (List.mem_of_getElem? (i := 15) rfl)) (host := "ComposedInterval") (List.mem_of_getElem? (i := 65) rfl) kdS_X3_sumOf (c_X3_sumOf3 (a := aP o) (f := f) (q := D.1.1) (sp := D.1.2.1) (rg := D.1.2.2.1) (wd := D.1.2.2.2.1) (it := D.1.2.2.2.2) hI) ⟨rfl, rfl, by decide, by decide, Nat.le_refl _, Nat.le_refl _⟩ rfl 3 1 rfl rfl [1, 2, 3, 4, 5, 6, 7, 8, 9, 10, 11, 12, 13, 14, 15, 16] (by decide) rfl rfl rfl (Nat.le_of_ble_eq_true rfl) dX10_count_59 (fun _ H1 hk hP1 => WX.back h [1, 2, 3, 4, 5, 6, 7, 8, 9, 10, 11, 12, 13, 14, 15, 16] rfl hk hP1 (fit_same rfl)) (fun _ => rfl) (fun r u H locs hq h => ?_)
    obtain rfl := hq
    exact hret _ st _ _ _ _ (Or.inl ⟨⟨by omega, by omega⟩, by rw [e1]; rfl, rfl⟩) h dX10_count_62
  ·
    refine i_swIn hx hb e1 (off := 62) (tgt := 63) dX10_count_1 (by decide) (by decide) rfl (by decide) ?_
    refine lv_aload_n hx hb dX10_count_63 rfl (lv_at hl 0 rfl) ?_
    refine gC_present S0 hG h dX10_count_64 ?_
    refine lv_aload_n hx hb dX10_count_67 rfl (lv_at hl 0 rfl) ?_
    refine gC_present S0 hG h dX10_count_68 ?_
    refine kPg_spoilt S0 hG h dX10_count_71 ?_
    refine cN_iC (w2 := fun u => wC G o f st tb tn nu bi si kp g D) S0 hG hA h hl.1 (ws_ok (rin11 _ (List.mem_of_getElem? (i := 16) rfl))) (rin2 _ (List.mem_of_getElem? (i := 3) rfl)) (rin11 _ (List.mem_of_getElem? (i := 14) rfl)) (rin11 _ (List.mem_of_getElem? (i := 15) rfl)) (host := "ComposedInterval") (List.mem_of_getElem? (i := 65) rfl) kdS_X3_sumOf (c_X3_sumOf4 (a := aP o) (f := f) (q := D.1.1) (sp := D.1.2.1) (rg := D.1.2.2.1) (wd := D.1.2.2.2.1) (it := D.1.2.2.2.2) hI) ⟨rfl, rfl, by decide, by decide, Nat.le_refl _, Nat.le_refl _⟩ rfl 3 1 rfl rfl [1, 2, 3, 4, 5, 6, 7, 8, 9, 10, 11, 12, 13, 14, 15, 16] (by decide) rfl rfl rfl (Nat.le_of_ble_eq_true rfl) dX10_count_74 (fun _ H1 hk hP1 => WX.back h [1, 2, 3, 4, 5, 6, 7, 8, 9, 10, 11, 12, 13, 14, 15, 16] rfl hk hP1 (fit_same rfl)) (fun _ => rfl) (fun r u H locs hq h => ?_)
    obtain rfl := hq
    exact hret _ st _ _ _ _ (Or.inl ⟨⟨by omega, by omega⟩, by rw [e1]; rfl, rfl⟩) h dX10_count_77
  ·
    refine lv_tableOut hx hb (tgt := 78) dX10_count_1 (by omega) (by decide) ?_
    refine lv_aload_n hx hb dX10_count_78 rfl (lv_at hl 0 rfl) ?_
    refine lv_ldc (v := -1000000001) hx hb S0.2.2.2.1 (S0.2.2.2.2 _ (rin6 _ (List.mem_of_getElem? (i := 6) rfl))) dX10_count_79 ?_
    refine cV_i0 S0 hG hA h hl.1 kw_RX10_58 kdV_X10_tell (c_X10_tell (k := 0) (by decide) (by decide)) ⟨rfl, rfl, by decide, by decide, Nat.le_refl _, Nat.le_refl _⟩ rfl 10 0 rfl rfl rfl (Nat.le_of_ble_eq_true rfl) dX10_count_81 (fun _ => rfl) (fun r u H locs hq h => ?_)
    obtain rfl := hq
    exact hret _ (bump st 0) _ _ _ _ (Or.inr ⟨fun q9 => by have := q9.1; have := q9.2; omega, rfl, rfl⟩) h dX10_count_84
