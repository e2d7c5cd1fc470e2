variable {G : GT} {l : Launch} {o : Nat → Nat} {f st tb : Row} {tn : Nat} {nu : Nat → Int64} {bi si : Row} {kp : Nat} {g : Row} {D : DT}
theorem kdS_X7_hasRun : yX7_hasRun.cls ≠ "java/lang/invoke/MethodHandle" ∧ yX7_hasRun.cls ≠ "java/lang/invoke/VarHandle" ∧ (parseMethodDescriptor yX7_hasRun.desc).map (fun d => d.parameters.length) = some 2 := ⟨by decide +kernel, by decide +kernel, by decide +kernel⟩
set_option maxHeartbeats 4000000 in
set_option maxRecDepth 100000 in
theorem c_X10_copy {x y z w n : Int32} (hSh : ShI bi si) : Ki G l yX10_copy cX10_copy 6 (some .int) (RM 3 42) [.ref (o 0), .int x, .int y, .int z, .int w, .int n] (wC G o f st tb tn nu bi si kp g D) (fun u : (Nat → Int64) × Row => wC G o f u.2 tb tn u.1 bi si kp g D) (fun r u => P_copy bi si nu st x y z w n r u.1 u.2) := by
  refine Ki.of (by decide) (Nat.le_of_ble_eq_true rfl) ?_
  intro p e s m args below meth c A Q ls hx hb S0 hG hA h hret hl
  have S0 : CF p m c cX10_copy 6 s args RX10 := S0
  have hl : lv_has ls 6 [(0, .ref (o 0)), (1, .int x), (2, .int y), (3, .int z), (4, .int w), (5, .int n)] := hl
  refine lv_iload_n hx hb dX10_copy_0 rfl (lv_at hl 1 rfl) ?_
  refine cS_iE S0 hG hA h hl.1 kw_RX10_183 kdS_X10_isNoSheet (c_X10_isNoSheet) ⟨rfl, rfl, by decide, by decide, Nat.le_refl _, Nat.le_refl _⟩ rfl rfl (Nat.le_of_ble_eq_true rfl) dX10_copy_1 (fun r u H locs hq h => ?_)
  rcases hq with ⟨rfl, b1⟩ | ⟨rfl, b1⟩
  ·
    refine n_zne hx hb (by decide) (tgt := 14) dX10_copy_4 (by decide) (fun _ => ?_) (fun q => absurd q (by decide))
    refine lv_aload_n hx hb dX10_copy_14 rfl (lv_at hl 0 rfl) ?_
    refine lv_ldc (v := -1000000001) hx hb S0.2.2.2.1 (S0.2.2.2.2 _ (rin6 _ (List.mem_of_getElem? (i := 6) rfl))) dX10_copy_15 ?_
    refine cV_i0 S0 hG hA h hl.1 kw_RX10_58 kdV_X10_tell (c_X10_tell (k := 0) (by decide) (by decide)) ⟨rfl, rfl, by decide, by decide, Nat.le_refl _, Nat.le_refl _⟩ rfl 10 0 rfl rfl rfl (Nat.le_of_ble_eq_true rfl) dX10_copy_17 (fun _ => rfl) (fun r u H locs hq h => ?_)
    obtain rfl := hq
    exact hret _ (nu, bump st 0) _ _ _ _ (Or.inl ⟨fun q9 => b1 q9.1, rfl, rfl, rfl⟩) h dX10_copy_20
  ·
    refine n_zne hx hb (by decide) (tgt := 14) dX10_copy_4 (by decide) (fun q => absurd q (by decide)) (fun _ => ?_)
    refine lv_iload_n hx hb dX10_copy_7 rfl (lv_at hl 3 rfl) ?_
    refine cS_iE S0 hG hA h hl.1 kw_RX10_183 kdS_X10_isNoSheet (c_X10_isNoSheet) ⟨rfl, rfl, by decide, by decide, Nat.le_refl _, Nat.le_refl _⟩ rfl rfl (Nat.le_of_ble_eq_true rfl) dX10_copy_8 (fun r u H locs hq h => ?_)
    rcases hq with ⟨rfl, b8⟩ | ⟨rfl, b8⟩
    ·
      refine n_zeq hx hb (by decide) (tgt := 21) dX10_copy_11 (by decide) (fun q => absurd q (by decide)) (fun _ => ?_)
      refine lv_aload_n hx hb dX10_copy_14 rfl (lv_at hl 0 rfl) ?_
      refine lv_ldc (v := -1000000001) hx hb S0.2.2.2.1 (S0.2.2.2.2 _ (rin6 _ (List.mem_of_getElem? (i := 6) rfl))) dX10_copy_15 ?_
      refine cV_i0 S0 hG hA h hl.1 kw_RX10_58 kdV_X10_tell (c_X10_tell (k := 0) (by decide) (by decide)) ⟨rfl, rfl, by decide, by decide, Nat.le_refl _, Nat.le_refl _⟩ rfl 10 0 rfl rfl rfl (Nat.le_of_ble_eq_true rfl) dX10_copy_17 (fun _ => rfl) (fun r u H locs hq h => ?_)
      obtain rfl := hq
      exact hret _ (nu, bump st 0) _ _ _ _ (Or.inl ⟨fun q9 => b8 q9.2, rfl, rfl, rfl⟩) h dX10_copy_20
    ·
      obtain ⟨jx, rfl, jx1, jx2⟩ := inR_nat b1
      obtain ⟨jz, rfl, jz1, jz2⟩ := inR_nat b8
      have s9 := hSh jx (by omega)
      have s8 := hSh jz (by omega)
      refine n_zeq hx hb (by decide) (tgt := 21) dX10_copy_11 (by decide) (fun _ => ?_) (fun q => absurd q (by decide))
      refine lv_aload_n hx hb dX10_copy_21 rfl (lv_at hl 0 rfl) ?_
      refine gC_sheets S0 hG h dX10_copy_22 ?_
      refine lv_iload_n hx hb dX10_copy_25 rfl (lv_at hl 1 rfl) ?_
      refine aC_sheets S0 hG h (by omega) dX10_copy_26 ?_
      refine cN_iC (w2 := fun _ => wC G o f st tb tn nu bi si kp g D) S0 hG hA h hl.1 (ws_ok (rin37 _ (List.mem_of_getElem? (i := 4) rfl))) (rin2 _ (List.mem_of_getElem? (i := 8) rfl)) (rin37 _ (List.mem_of_getElem? (i := 2) rfl)) (rin37 _ (List.mem_of_getElem? (i := 3) rfl)) (host := "ComposedInterval") (List.mem_of_getElem? (i := 62) rfl) kdS_X7_isMissing (c_X7_isMissing (a := aSh o jx) (nu := fun k => nu (40 * jx + k)) (bb := bi jx) (ss := si jx) (by omega)) ⟨rfl, rfl, by decide, by decide, Nat.le_refl _, Nat.le_refl _⟩ rfl 7 (38 + 2 * jx) rfl (shO (by omega)) (shC jx) (shC_nd (by omega)) (shC_m (by omega)) (shC_f (by omega)) rfl (Nat.le_of_ble_eq_true rfl) dX10_copy_27 (fun _ H1 hk hP1 => WX.back h (shC jx) (shC_m (by omega)) hk hP1 (fit_same (shC_m (by omega)))) (fun _ => rfl) (fun r u H locs hq h => ?_)
      rcases hq with ⟨rfl, b27⟩ | ⟨rfl, b27⟩
      ·
        refine n_zne hx hb (by decide) (tgt := 45) dX10_copy_30 (by decide) (fun _ => ?_) (fun q => absurd q (by decide))
        refine lv_aload_n hx hb dX10_copy_45 rfl (lv_at hl 0 rfl) ?_
        refine lv_ldc (v := -1000000006) hx hb S0.2.2.2.1 (S0.2.2.2.2 _ (rin37 _ (List.mem_of_getElem? (i := 1) rfl))) dX10_copy_46 ?_
        refine cV_i0 S0 hG hA h hl.1 kw_RX10_58 kdV_X10_tell (c_X10_tell (k := 5) (by decide) (by decide)) ⟨rfl, rfl, by decide, by decide, Nat.le_refl _, Nat.le_refl _⟩ rfl 10 0 rfl rfl rfl (Nat.le_of_ble_eq_true rfl) dX10_copy_48 (fun _ => rfl) (fun r u H locs hq h => ?_)
        obtain rfl := hq
        exact hret _ (nu, bump st 5) _ _ _ _ (Or.inr ⟨⟨b1, b8⟩, by rw [nt_nI jx2, nt_nI jz2]; exact Or.inl ⟨Or.inl b27, rfl, rfl, rfl⟩⟩) h dX10_copy_51
      ·
        refine n_zne hx hb (by decide) (tgt := 45) dX10_copy_30 (by decide) (fun q => absurd q (by decide)) (fun _ => ?_)
        refine lv_aload_n hx hb dX10_copy_33 rfl (lv_at hl 0 rfl) ?_
        refine gC_sheets S0 hG h dX10_copy_34 ?_
        refine lv_iload_n hx hb dX10_copy_37 rfl (lv_at hl 3 rfl) ?_
        refine aC_sheets S0 hG h (by omega) dX10_copy_38 ?_
        refine cN_iC (w2 := fun _ => wC G o f st tb tn nu bi si kp g D) S0 hG hA h hl.1 (ws_ok (rin37 _ (List.mem_of_getElem? (i := 4) rfl))) (rin2 _ (List.mem_of_getElem? (i := 8) rfl)) (rin37 _ (List.mem_of_getElem? (i := 2) rfl)) (rin37 _ (List.mem_of_getElem? (i := 3) rfl)) (host := "ComposedInterval") (List.mem_of_getElem? (i := 62) rfl) kdS_X7_isMissing (c_X7_isMissing (a := aSh o jz) (nu := fun k => nu (40 * jz + k)) (bb := bi jz) (ss := si jz) (by omega)) ⟨rfl, rfl, by decide, by decide, Nat.le_refl _, Nat.le_refl _⟩ rfl 7 (38 + 2 * jz) rfl (shO (by omega)) (shC jz) (shC_nd (by omega)) (shC_m (by omega)) (shC_f (by omega)) rfl (Nat.le_of_ble_eq_true rfl) dX10_copy_39 (fun _ H1 hk hP1 => WX.back h (shC jz) (shC_m (by omega)) hk hP1 (fit_same (shC_m (by omega)))) (fun _ => rfl) (fun r u H locs hq h => ?_)
        rcases hq with ⟨rfl, b39⟩ | ⟨rfl, b39⟩
        ·
          refine n_zeq hx hb (by decide) (tgt := 52) dX10_copy_42 (by decide) (fun q => absurd q (by decide)) (fun _ => ?_)
          refine lv_aload_n hx hb dX10_copy_45 rfl (lv_at hl 0 rfl) ?_
          refine lv_ldc (v := -1000000006) hx hb S0.2.2.2.1 (S0.2.2.2.2 _ (rin37 _ (List.mem_of_getElem? (i := 1) rfl))) dX10_copy_46 ?_
          refine cV_i0 S0 hG hA h hl.1 kw_RX10_58 kdV_X10_tell (c_X10_tell (k := 5) (by decide) (by decide)) ⟨rfl, rfl, by decide, by decide, Nat.le_refl _, Nat.le_refl _⟩ rfl 10 0 rfl rfl rfl (Nat.le_of_ble_eq_true rfl) dX10_copy_48 (fun _ => rfl) (fun r u H locs hq h => ?_)
          obtain rfl := hq
          exact hret _ (nu, bump st 5) _ _ _ _ (Or.inr ⟨⟨b1, b8⟩, by rw [nt_nI jx2, nt_nI jz2]; exact Or.inl ⟨Or.inr b39, rfl, rfl, rfl⟩⟩) h dX10_copy_51
        ·
          refine n_zeq hx hb (by decide) (tgt := 52) dX10_copy_42 (by decide) (fun _ => ?_) (fun q => absurd q (by decide))
          refine lv_aload_n hx hb dX10_copy_52 rfl (lv_at hl 0 rfl) ?_
          refine gC_sheets S0 hG h dX10_copy_53 ?_
          refine lv_iload_n hx hb dX10_copy_56 rfl (lv_at hl 1 rfl) ?_
          refine aC_sheets S0 hG h (by omega) dX10_copy_57 ?_
          refine gSh_bits (x := jx) (by omega) S0 hG h dX10_copy_58 ?_
          refine lv_aload_n hx hb dX10_copy_61 rfl (lv_at hl 0 rfl) ?_
          refine gC_sheets S0 hG h dX10_copy_62 ?_
          refine lv_iload_n hx hb dX10_copy_65 rfl (lv_at hl 3 rfl) ?_
          refine aC_sheets S0 hG h (by omega) dX10_copy_66 ?_
          refine gSh_bits (x := jz) (by omega) S0 hG h dX10_copy_67 ?_
          refine n_ceq hx hb (by omega) (by omega) (tgt := 80) dX10_copy_70 (by decide) (fun c70 => ?_) (fun c70 => ?_)
          ·
            refine lv_aload_n hx hb dX10_copy_80 rfl (lv_at hl 0 rfl) ?_
            refine gC_sheets S0 hG h dX10_copy_81 ?_
            refine lv_iload_n hx hb dX10_copy_84 rfl (lv_at hl 1 rfl) ?_
            refine aC_sheets S0 hG h (by omega) dX10_copy_85 ?_
            refine lv_iload_n hx hb dX10_copy_86 rfl (lv_at hl 2 rfl) ?_
            refine lv_iload hx hb dX10_copy_87 (lv_at hl 5 rfl) ?_
            refine cN_iC (w2 := fun _ => wC G o f st tb tn nu bi si kp g D) S0 hG hA h hl.1 (ws_ok (rin38 _ (List.mem_of_getElem? (i := 3) rfl))) (rin2 _ (List.mem_of_getElem? (i := 8) rfl)) (rin38 _ (List.mem_of_getElem? (i := 1) rfl)) (rin38 _ (List.mem_of_getElem? (i := 2) rfl)) (host := "ComposedInterval") (List.mem_of_getElem? (i := 64) rfl) kdS_X7_hasRun (c_X7_hasRun (a := aSh o jx) (nu := fun k => nu (40 * jx + k)) (bb := bi jx) (ss := si jx) s9.1) ⟨rfl, rfl, by decide, by decide, Nat.le_refl _, Nat.le_refl _⟩ rfl 7 (38 + 2 * jx) rfl (shO (by omega)) (shC jx) (shC_nd (by omega)) (shC_m (by omega)) (shC_f (by omega)) rfl (Nat.le_of_ble_eq_true rfl) dX10_copy_89 (fun _ H1 hk hP1 => WX.back h (shC jx) (shC_m (by omega)) hk hP1 (fit_same (shC_m (by omega)))) (fun _ => rfl) (fun r u H locs hq h => ?_)
            rcases hq with ⟨rfl, b89⟩ | ⟨rfl, b89⟩
            ·
              refine n_zeq hx hb (by decide) (tgt := 111) dX10_copy_92 (by decide) (fun q => absurd q (by decide)) (fun _ => ?_)
              refine lv_aload_n hx hb dX10_copy_95 rfl (lv_at hl 0 rfl) ?_
              refine gC_sheets S0 hG h dX10_copy_96 ?_
              refine lv_iload_n hx hb dX10_copy_99 rfl (lv_at hl 3 rfl) ?_
              refine aC_sheets S0 hG h (by omega) dX10_copy_100 ?_
              refine lv_iload hx hb dX10_copy_101 (lv_at hl 4 rfl) ?_
              refine lv_iload hx hb dX10_copy_103 (lv_at hl 5 rfl) ?_
              refine cN_iC (w2 := fun _ => wC G o f st tb tn nu bi si kp g D) S0 hG hA h hl.1 (ws_ok (rin38 _ (List.mem_of_getElem? (i := 3) rfl))) (rin2 _ (List.mem_of_getElem? (i := 8) rfl)) (rin38 _ (List.mem_of_getElem? (i := 1) rfl)) (rin38 _ (List.mem_of_getElem? (i := 2) rfl)) (host := "ComposedInterval") (List.mem_of_getElem? (i := 64) rfl) kdS_X7_hasRun (c_X7_hasRun (a := aSh o jz) (nu := fun k => nu (40 * jz + k)) (bb := bi jz) (ss := si jz) s8.1) ⟨rfl, rfl, by decide, by decide, Nat.le_refl _, Nat.le_refl _⟩ rfl 7 (38 + 2 * jz) rfl (shO (by omega)) (shC jz) (shC_nd (by omega)) (shC_m (by omega)) (shC_f (by omega)) rfl (Nat.le_of_ble_eq_true rfl) dX10_copy_105 (fun _ H1 hk hP1 => WX.back h (shC jz) (shC_m (by omega)) hk hP1 (fit_same (shC_m (by omega)))) (fun _ => rfl) (fun r u H locs hq h => ?_)
              rcases hq with ⟨rfl, b105⟩ | ⟨rfl, b105⟩
              ·
                refine n_zne hx hb (by decide) (tgt := 118) dX10_copy_108 (by decide) (fun _ => ?_) (fun q => absurd q (by decide))
                obtain ⟨jy, rfl, jy1, jy2⟩ := inR_nat (x := y) (hi := 40) ⟨b89.1, by omega⟩
                obtain ⟨jw, rfl, jw1, jw2⟩ := inR_nat (x := w) (hi := 40) ⟨b105.1, by omega⟩
                obtain ⟨jn, rfl, jn1, jn2⟩ := inR_nat (x := n) (hi := 40) ⟨b89.2.1, by omega⟩
                have t1 := nI_toInt jy2
                have t2 := nI_toInt jw2
                have t3 := nI_toInt jn2
                refine lv_aload_n hx hb dX10_copy_118 rfl (lv_at hl 0 rfl) ?_
                refine gC_sheets S0 hG h dX10_copy_119 ?_
                refine lv_iload_n hx hb dX10_copy_122 rfl (lv_at hl 1 rfl) ?_
                refine aC_sheets S0 hG h (by omega) dX10_copy_123 ?_
                refine gSh_numbers (x := jx) (by omega) S0 hG h dX10_copy_124 ?_
                refine lv_iload_n hx hb dX10_copy_127 rfl (lv_at hl 2 rfl) ?_
                refine lv_aload_n hx hb dX10_copy_128 rfl (lv_at hl 0 rfl) ?_
                refine gC_sheets S0 hG h dX10_copy_129 ?_
                refine lv_iload_n hx hb dX10_copy_132 rfl (lv_at hl 3 rfl) ?_
                refine aC_sheets S0 hG h (by omega) dX10_copy_133 ?_
                refine gSh_numbers (x := jz) (by omega) S0 hG h dX10_copy_134 ?_
                refine lv_iload hx hb dX10_copy_137 (lv_at hl 4 rfl) ?_
                refine lv_iload hx hb dX10_copy_139 (lv_at hl 5 rfl) ?_
                refine cpSh (by omega) (by omega) S0 hG h hl.1 (by omega) (by omega) (by decide) (Nat.le_of_ble_eq_true rfl) dX10_copy_141 (fun H locs h => ?_)
                refine lv_iload hx hb dX10_copy_144 (lv_at hl 5 rfl) ?_
                exact hret _ (cpy nu (40 * jx + jy) (40 * jz + jw) jn, st) _ _ _ _ (Or.inr ⟨⟨b1, b8⟩, by rw [nt_nI jx2, nt_nI jz2]; exact Or.inr ⟨fun q9 => q9.elim b27 b39, Or.inr ⟨c70, Or.inr ⟨by unfold okC; rw [nt_nI jx2, nt_nI jz2]; exact ⟨b89.1, b105.1, b89.2.1, b89.2.2, b105.2.2⟩, rfl, by rw [nt_nI jy2, nt_nI jw2, nt_nI jn2], rfl⟩⟩⟩⟩) h dX10_copy_146
              ·
                refine n_zne hx hb (by decide) (tgt := 118) dX10_copy_108 (by decide) (fun q => absurd q (by decide)) (fun _ => ?_)
                refine lv_aload_n hx hb dX10_copy_111 rfl (lv_at hl 0 rfl) ?_
                refine lv_ldc (v := -1000000001) hx hb S0.2.2.2.1 (S0.2.2.2.2 _ (rin6 _ (List.mem_of_getElem? (i := 6) rfl))) dX10_copy_112 ?_
                refine cV_i0 S0 hG hA h hl.1 kw_RX10_58 kdV_X10_tell (c_X10_tell (k := 0) (by decide) (by decide)) ⟨rfl, rfl, by decide, by decide, Nat.le_refl _, Nat.le_refl _⟩ rfl 10 0 rfl rfl rfl (Nat.le_of_ble_eq_true rfl) dX10_copy_114 (fun _ => rfl) (fun r u H locs hq h => ?_)
                obtain rfl := hq
                exact hret _ (nu, bump st 0) _ _ _ _ (Or.inr ⟨⟨b1, b8⟩, by rw [nt_nI jx2, nt_nI jz2]; exact Or.inr ⟨fun q9 => q9.elim b27 b39, Or.inr ⟨c70, Or.inl ⟨fun q9 : okC si (nI jx) y (nI jz) w n => by obtain ⟨q1, q2, q3, q4, q5⟩ := q9; rw [nt_nI jx2] at q4; rw [nt_nI jz2] at q5; exact b105 ⟨q2, q3, q5⟩, rfl, rfl, rfl⟩⟩⟩⟩) h dX10_copy_117
            ·
              refine n_zeq hx hb (by decide) (tgt := 111) dX10_copy_92 (by decide) (fun _ => ?_) (fun q => absurd q (by decide))
              refine lv_aload_n hx hb dX10_copy_111 rfl (lv_at hl 0 rfl) ?_
              refine lv_ldc (v := -1000000001) hx hb S0.2.2.2.1 (S0.2.2.2.2 _ (rin6 _ (List.mem_of_getElem? (i := 6) rfl))) dX10_copy_112 ?_
              refine cV_i0 S0 hG hA h hl.1 kw_RX10_58 kdV_X10_tell (c_X10_tell (k := 0) (by decide) (by decide)) ⟨rfl, rfl, by decide, by decide, Nat.le_refl _, Nat.le_refl _⟩ rfl 10 0 rfl rfl rfl (Nat.le_of_ble_eq_true rfl) dX10_copy_114 (fun _ => rfl) (fun r u H locs hq h => ?_)
              obtain rfl := hq
              exact hret _ (nu, bump st 0) _ _ _ _ (Or.inr ⟨⟨b1, b8⟩, by rw [nt_nI jx2, nt_nI jz2]; exact Or.inr ⟨fun q9 => q9.elim b27 b39, Or.inr ⟨c70, Or.inl ⟨fun q9 : okC si (nI jx) y (nI jz) w n => by obtain ⟨q1, q2, q3, q4, q5⟩ := q9; rw [nt_nI jx2] at q4; rw [nt_nI jz2] at q5; exact b89 ⟨q1, q3, q4⟩, rfl, rfl, rfl⟩⟩⟩⟩) h dX10_copy_117
          ·
            refine lv_aload_n hx hb dX10_copy_73 rfl (lv_at hl 0 rfl) ?_
            refine lv_ldc (v := -1000000003) hx hb S0.2.2.2.1 (S0.2.2.2.2 _ (rin19 _ (List.mem_of_getElem? (i := 23) rfl))) dX10_copy_74 ?_
            refine cV_i0 S0 hG hA h hl.1 kw_RX10_58 kdV_X10_tell (c_X10_tell (k := 2) (by decide) (by decide)) ⟨rfl, rfl, by decide, by decide, Nat.le_refl _, Nat.le_refl _⟩ rfl 10 0 rfl rfl rfl (Nat.le_of_ble_eq_true rfl) dX10_copy_76 (fun _ => rfl) (fun r u H locs hq h => ?_)
            obtain rfl := hq
            exact hret _ (nu, bump st 2) _ _ _ _ (Or.inr ⟨⟨b1, b8⟩, by rw [nt_nI jx2, nt_nI jz2]; exact Or.inr ⟨fun q9 => q9.elim b27 b39, Or.inl ⟨c70, rfl, rfl, rfl⟩⟩⟩) h dX10_copy_79
