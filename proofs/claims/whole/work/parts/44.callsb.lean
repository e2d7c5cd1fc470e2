variable {G : GT} {l : Launch} {o : Nat → Nat} {f st tb : Row} {tn : Nat} {nu : Nat → Int64} {bi si : Row} {kp : Nat} {g : Row} {D : DT}
theorem kdS_X7_isMissing : yX7_isMissing.cls ≠ "java/lang/invoke/MethodHandle" ∧ yX7_isMissing.cls ≠ "java/lang/invoke/VarHandle" ∧ (parseMethodDescriptor yX7_isMissing.desc).map (fun d => d.parameters.length) = some 0 := ⟨by decide +kernel, by decide +kernel, by decide +kernel⟩
set_option maxHeartbeats 4000000 in
set_option maxRecDepth 100000 in
theorem c_X10_sheetFinding {x : Int32} (hSh : ShI bi si) : Ki G l yX10_sheetFinding cX10_sheetFinding 2 (some .int) (RM 3 42) [.ref (o 0), .int x] (wC G o f st tb tn nu bi si kp g D) (fun u : Unit => wC G o f st tb tn nu bi si kp g D) (fun r _ => (r = -1000000001 ∧ ¬ inR x 0 3) ∨ (r = -1000000006 ∧ inR x 0 3 ∧ bi (nt x) = 0) ∨ (r = nI 0 ∧ inR x 0 3 ∧ bi (nt x) ≠ 0)) := by
  refine Ki.of (by decide) (Nat.le_of_ble_eq_true rfl) ?_
  intro p e s m args below meth c A Q ls hx hb S0 hG hA h hret hl
  have S0 : CF p m c cX10_sheetFinding 2 s args RX10 := S0
  have hl : lv_has ls 2 [(0, .ref (o 0)), (1, .int x)] := hl
  refine lv_iload_n hx hb dX10_sheetFinding_0 rfl (lv_at hl 1 rfl) ?_
  refine cS_iE S0 hG hA h hl.1 kw_RX10_183 kdS_X10_isNoSheet (c_X10_isNoSheet) ⟨rfl, rfl, by decide, by decide, Nat.le_refl _, Nat.le_refl _⟩ rfl rfl (Nat.le_of_ble_eq_true rfl) dX10_sheetFinding_1 (fun r u H locs hq h => ?_)
  rcases hq with ⟨rfl, b1⟩ | ⟨rfl, b1⟩
  ·
    refine n_zeq hx hb (by decide) (tgt := 10) dX10_sheetFinding_4 (by decide) (fun q => absurd q (by decide)) (fun _ => ?_)
    refine lv_ldc (v := -1000000001) hx hb S0.2.2.2.1 (S0.2.2.2.2 _ (rin6 _ (List.mem_of_getElem? (i := 6) rfl))) dX10_sheetFinding_7 ?_
    exact hret _ () _ _ _ _ (Or.inl ⟨rfl, b1⟩) h dX10_sheetFinding_9
  ·
    obtain ⟨jx, rfl, jx1, jx2⟩ := inR_nat b1
    have s9 := hSh jx (by omega)
    refine n_zeq hx hb (by decide) (tgt := 10) dX10_sheetFinding_4 (by decide) (fun _ => ?_) (fun q => absurd q (by decide))
    refine lv_aload_n hx hb dX10_sheetFinding_10 rfl (lv_at hl 0 rfl) ?_
    refine gC_sheets S0 hG h dX10_sheetFinding_11 ?_
    refine lv_iload_n hx hb dX10_sheetFinding_14 rfl (lv_at hl 1 rfl) ?_
    refine aC_sheets S0 hG h (by omega) dX10_sheetFinding_15 ?_
    refine cN_iC (w2 := fun _ => wC G o f st tb tn nu bi si kp g D) S0 hG hA h hl.1 (ws_ok (rin37 _ (List.mem_of_getElem? (i := 4) rfl))) (rin2 _ (List.mem_of_getElem? (i := 8) rfl)) (rin37 _ (List.mem_of_getElem? (i := 2) rfl)) (rin37 _ (List.mem_of_getElem? (i := 3) rfl)) (host := "ComposedInterval") (List.mem_of_getElem? (i := 62) rfl) kdS_X7_isMissing (c_X7_isMissing (a := aSh o jx) (nu := fun k => nu (40 * jx + k)) (bb := bi jx) (ss := si jx) (by omega)) ⟨rfl, rfl, by decide, by decide, Nat.le_refl _, Nat.le_refl _⟩ rfl 7 (38 + 2 * jx) rfl (shO (by omega)) (shC jx) (shC_nd (by omega)) (shC_m (by omega)) (shC_f (by omega)) rfl (Nat.le_of_ble_eq_true rfl) dX10_sheetFinding_16 (fun _ H1 hk hP1 => WX.back h (shC jx) (shC_m (by omega)) hk hP1 (fit_same (shC_m (by omega)))) (fun _ => rfl) (fun r u H locs hq h => ?_)
    rcases hq with ⟨rfl, b16⟩ | ⟨rfl, b16⟩
    ·
      refine n_zeq hx hb (by decide) (tgt := 27) dX10_sheetFinding_19 (by decide) (fun q => absurd q (by decide)) (fun _ => ?_)
      refine lv_ldc (v := -1000000006) hx hb S0.2.2.2.1 (S0.2.2.2.2 _ (rin37 _ (List.mem_of_getElem? (i := 1) rfl))) dX10_sheetFinding_22 ?_
      refine lv_goto (tgt := 28) hx hb dX10_sheetFinding_24 (by decide) ?_
      exact hret _ () _ _ _ _ (Or.inr (Or.inl ⟨rfl, b1, by rw [nt_nI jx2]; exact b16⟩)) h dX10_sheetFinding_28
    ·
      refine n_zeq hx hb (by decide) (tgt := 27) dX10_sheetFinding_19 (by decide) (fun _ => ?_) (fun q => absurd q (by decide))
      refine lv_iconst (v := nI 0) hx hb dX10_sheetFinding_27 (by decide) ?_
      exact hret _ () _ _ _ _ (Or.inr (Or.inr ⟨rfl, b1, by rw [nt_nI jx2]; exact b16⟩)) h dX10_sheetFinding_28
