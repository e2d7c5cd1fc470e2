/-! the reference: what is best -/
variable {G : GT} {l : Launch} {a : Nat → Nat} {f g o d st du tb bi si : Nat → Nat} {nu mo : Nat → Int64} {kp it tn fr to vl wr : Nat}
set_option maxHeartbeats 4000000 in
set_option maxRecDepth 100000 in
theorem c_X11_turn {x y : Int32} (hI : Inv f) : Ki G l yX11_turn cX11_turn 3 (some .int) (RM 3 46) [.ref (a 0), .int x, .int y] (wM G a f g o d st du tb bi si nu mo kp it tn fr to vl wr) (fun u : (Nat → Nat) × (Nat → Nat) => wM G a u.1 g o d u.2 du tb bi si nu mo kp it tn fr to vl wr) (fun r u => P_turn f st x y r u.1 u.2) := by
  refine Ki.of (by decide) (Nat.le_of_ble_eq_true rfl) ?_
  intro p e s m args below meth c A Q ls hx hb S0 hG hA h hret hl
  have S0 : CF p m c cX11_turn 3 s args RX11 := S0
  have hl : lv_has ls 3 [(0, .ref (a 0)), (1, .int x), (2, .int y)] := hl
  have h1 := hI.2.1
  refine lv_aload_n hx hb dX11_turn_0 rfl (lv_at hl 0 rfl) ?_
  refine lv_iload_n hx hb dX11_turn_1 rfl (lv_at hl 1 rfl) ?_
  refine cV_i0 S0 hG hA h hl.1 kw_RX11_123 kdV_X11_isPerson (c_X11_isPerson (by omega)) ⟨rfl, rfl, by decide, by decide, Nat.le_refl _, Nat.le_refl _⟩ rfl 11 0 rfl rfl rfl (Nat.le_of_ble_eq_true rfl) dX11_turn_2 (fun _ => rfl) (fun r u H locs hq h => ?_)
  rcases hq with ⟨rfl, b2⟩ | ⟨rfl, b2⟩
  ·
    obtain ⟨xn, rfl, xh, xq⟩ := inR_nat (x := x) ⟨Int.le_trans (by decide) b2.1, b2.2⟩
    have xr := (inR_n xq).mp b2
    refine n_zeq hx hb (by decide) (tgt := 28) dX11_turn_5 (by decide) (fun q => absurd q (by decide)) (fun _ => ?_)
    refine lv_iload_n hx hb dX11_turn_8 rfl (lv_at hl 2 rfl) ?_
    refine cS_iE S0 hG hA h hl.1 kw_RX11_116 kdS_X11_isKind (c_X11_isKind) ⟨rfl, rfl, by decide, by decide, Nat.le_refl _, Nat.le_refl _⟩ rfl rfl (Nat.le_of_ble_eq_true rfl) dX11_turn_9 (fun r u H locs hq h => ?_)
    rcases hq with ⟨rfl, b9⟩ | ⟨rfl, b9⟩
    ·
      obtain ⟨yn, rfl, yh, yq⟩ := inR_nat (x := y) ⟨Int.le_trans (by decide) b9.1, b9.2⟩
      have yr := (inR_n yq).mp b9
      refine n_zeq hx hb (by decide) (tgt := 28) dX11_turn_12 (by decide) (fun q => absurd q (by decide)) (fun _ => ?_)
      refine lv_aload_n hx hb dX11_turn_15 rfl (lv_at hl 0 rfl) ?_
      refine lv_iload_n hx hb dX11_turn_16 rfl (lv_at hl 1 rfl) ?_
      refine lv_iconst (v := nI 0) hx hb dX11_turn_17 (by decide) ?_
      refine cS_iE S0 hG hA h hl.1 kw_RX11_45 kdS_X11_spot (c_X11_spot) ⟨rfl, rfl, by decide, by decide, Nat.le_refl _, Nat.le_refl _⟩ rfl rfl (Nat.le_of_ble_eq_true rfl) dX11_turn_18 (fun r u H locs hq h => ?_)
      obtain rfl := hq
      refine lv_iload_n hx hb dX11_turn_21 rfl (lv_at hl 2 rfl) ?_
      refine cV_i0 S0 hG hA h hl.1 kw_RX11_73 kdV_X11_becomes (c_X11_becomes (by omega)) ⟨rfl, rfl, by decide, by decide, Nat.le_refl _, Nat.le_refl _⟩ rfl 11 0 rfl rfl rfl (Nat.le_of_ble_eq_true rfl) dX11_turn_22 (fun _ => rfl) (fun r u H locs hq h => ?_)
      obtain rfl := hq
      refine lv_goto (tgt := 34) hx hb dX11_turn_25 (by decide) ?_
      exact hret _ (va_up f (11 + 5 * xn + 0) yn, st) _ _ _ _ (Or.inl ⟨⟨b2, b9⟩, by simp only [nt_nI xq]; rfl, by simp only [nt_nI xq, nt_nI yq], rfl⟩) h dX11_turn_34
    ·
      refine n_zeq hx hb (by decide) (tgt := 28) dX11_turn_12 (by decide) (fun _ => ?_) (fun q => absurd q (by decide))
      refine lv_aload_n hx hb dX11_turn_28 rfl (lv_at hl 0 rfl) ?_
      refine lv_ldc (v := -1000000001) hx hb S0.2.2.2.1 (S0.2.2.2.2 _ (rin6 _ (List.mem_of_getElem? (i := 21) rfl))) dX11_turn_29 ?_
      refine cV_i0 S0 hG hA h hl.1 kw_RX11_76 kdV_X11_finds (c_X11_finds (k := 0) (by decide) (by decide)) ⟨rfl, rfl, by decide, by decide, Nat.le_refl _, Nat.le_refl _⟩ rfl 11 0 rfl rfl rfl (Nat.le_of_ble_eq_true rfl) dX11_turn_31 (fun _ => rfl) (fun r u H locs hq h => ?_)
      obtain rfl := hq
      exact hret _ (_, _) _ _ _ _ (Or.inr ⟨by first | exact fun q => b2 q.1 | exact fun q => b9 q.2, rfl, rfl, rfl⟩) h dX11_turn_34
  ·
    refine n_zeq hx hb (by decide) (tgt := 28) dX11_turn_5 (by decide) (fun _ => ?_) (fun q => absurd q (by decide))
    refine lv_aload_n hx hb dX11_turn_28 rfl (lv_at hl 0 rfl) ?_
    refine lv_ldc (v := -1000000001) hx hb S0.2.2.2.1 (S0.2.2.2.2 _ (rin6 _ (List.mem_of_getElem? (i := 21) rfl))) dX11_turn_29 ?_
    refine cV_i0 S0 hG hA h hl.1 kw_RX11_76 kdV_X11_finds (c_X11_finds (k := 0) (by decide) (by decide)) ⟨rfl, rfl, by decide, by decide, Nat.le_refl _, Nat.le_refl _⟩ rfl 11 0 rfl rfl rfl (Nat.le_of_ble_eq_true rfl) dX11_turn_31 (fun _ => rfl) (fun r u H locs hq h => ?_)
    obtain rfl := hq
    exact hret _ (_, _) _ _ _ _ (Or.inr ⟨by first | exact fun q => b2 q.1 | exact fun q => b9 q.2, rfl, rfl, rfl⟩) h dX11_turn_34
set_option maxHeartbeats 4000000 in
set_option maxRecDepth 100000 in
theorem c_X11_isUnder {x y : Nat} (hx1 : x ≤ 5) (hy1 : y ≤ 5) : Ki G l yX11_isUnder cX11_isUnder 2 (some .boolean) (RM 1 0) [.int (nI x), .int (nI y)] ([]) (fun u : Unit => []) (fun r _ => (r = nI 1 ∧ under x y) ∨ (r = nI 0 ∧ ¬ under x y)) := by
  refine Ki.ofz (by decide) (Nat.le_of_ble_eq_true rfl) ?_
  intro p e s m args below meth c A Q ls hx hb S0 hG hA h hret hl
  have S0 : CF p m c cX11_isUnder 2 s args RX11 := S0
  have hl : lv_has ls 2 [(0, .int (nI x)), (1, .int (nI y))] := hl
  refine lv_iload_n hx hb dX11_isUnder_0 rfl (lv_at hl 1 rfl) ?_
  refine n_zeq hx hb (by omega) (tgt := 29) dX11_isUnder_1 (by decide) (fun c1 => ?_) (fun c1 => ?_)
  ·
    refine lv_iconst (v := nI 1) hx hb dX11_isUnder_29 (by decide) ?_
    refine lv_goto (tgt := 34) hx hb dX11_isUnder_30 (by decide) ?_
    exact hret _ () _ _ _ _ (by decide) (by first | exact Or.inl ⟨rfl, by unfold under; omega⟩ | exact Or.inr ⟨rfl, by unfold under; omega⟩) h dX11_isUnder_34
  ·
    refine lv_iload_n hx hb dX11_isUnder_4 rfl (lv_at hl 0 rfl) ?_
    refine lv_iload_n hx hb dX11_isUnder_5 rfl (lv_at hl 1 rfl) ?_
    refine n_ceq hx hb (by omega) (by omega) (tgt := 29) dX11_isUnder_6 (by decide) (fun c6 => ?_) (fun c6 => ?_)
    ·
      refine lv_iconst (v := nI 1) hx hb dX11_isUnder_29 (by decide) ?_
      refine lv_goto (tgt := 34) hx hb dX11_isUnder_30 (by decide) ?_
      exact hret _ () _ _ _ _ (by decide) (by first | exact Or.inl ⟨rfl, by unfold under; omega⟩ | exact Or.inr ⟨rfl, by unfold under; omega⟩) h dX11_isUnder_34
    ·
      refine lv_iload_n hx hb dX11_isUnder_9 rfl (lv_at hl 0 rfl) ?_
      refine lv_iconst (v := nI 4) hx hb dX11_isUnder_10 (by decide) ?_
      refine n_cne hx hb (by omega) (by omega) (tgt := 19) dX11_isUnder_11 (by decide) (fun c11 => ?_) (fun c11 => ?_)
      ·
        refine lv_iload_n hx hb dX11_isUnder_19 rfl (lv_at hl 0 rfl) ?_
        refine lv_iconst (v := nI 5) hx hb dX11_isUnder_20 (by decide) ?_
        refine n_cne hx hb (by omega) (by omega) (tgt := 33) dX11_isUnder_21 (by decide) (fun c21 => ?_) (fun c21 => ?_)
        ·
          refine lv_iconst (v := nI 0) hx hb dX11_isUnder_33 (by decide) ?_
          exact hret _ () _ _ _ _ (by decide) (by first | exact Or.inl ⟨rfl, by unfold under; omega⟩ | exact Or.inr ⟨rfl, by unfold under; omega⟩) h dX11_isUnder_34
        ·
          refine lv_iload_n hx hb dX11_isUnder_24 rfl (lv_at hl 1 rfl) ?_
          refine lv_iconst (v := nI 1) hx hb dX11_isUnder_25 (by decide) ?_
          refine n_cne hx hb (by omega) (by omega) (tgt := 33) dX11_isUnder_26 (by decide) (fun c26 => ?_) (fun c26 => ?_)
          ·
            refine lv_iconst (v := nI 0) hx hb dX11_isUnder_33 (by decide) ?_
            exact hret _ () _ _ _ _ (by decide) (by first | exact Or.inl ⟨rfl, by unfold under; omega⟩ | exact Or.inr ⟨rfl, by unfold under; omega⟩) h dX11_isUnder_34
          ·
            refine lv_iconst (v := nI 1) hx hb dX11_isUnder_29 (by decide) ?_
            refine lv_goto (tgt := 34) hx hb dX11_isUnder_30 (by decide) ?_
            exact hret _ () _ _ _ _ (by decide) (by first | exact Or.inl ⟨rfl, by unfold under; omega⟩ | exact Or.inr ⟨rfl, by unfold under; omega⟩) h dX11_isUnder_34
      ·
        refine lv_iload_n hx hb dX11_isUnder_14 rfl (lv_at hl 1 rfl) ?_
        refine lv_iconst (v := nI 2) hx hb dX11_isUnder_15 (by decide) ?_
        refine n_ceq hx hb (by omega) (by omega) (tgt := 29) dX11_isUnder_16 (by decide) (fun c16 => ?_) (fun c16 => ?_)
        ·
          refine lv_iconst (v := nI 1) hx hb dX11_isUnder_29 (by decide) ?_
          refine lv_goto (tgt := 34) hx hb dX11_isUnder_30 (by decide) ?_
          exact hret _ () _ _ _ _ (by decide) (by first | exact Or.inl ⟨rfl, by unfold under; omega⟩ | exact Or.inr ⟨rfl, by unfold under; omega⟩) h dX11_isUnder_34
        ·
          refine lv_iload_n hx hb dX11_isUnder_19 rfl (lv_at hl 0 rfl) ?_
          refine lv_iconst (v := nI 5) hx hb dX11_isUnder_20 (by decide) ?_
          refine n_cne hx hb (by omega) (by omega) (tgt := 33) dX11_isUnder_21 (by decide) (fun c21 => ?_) (fun c21 => ?_)
          ·
            refine lv_iconst (v := nI 0) hx hb dX11_isUnder_33 (by decide) ?_
            exact hret _ () _ _ _ _ (by decide) (by first | exact Or.inl ⟨rfl, by unfold under; omega⟩ | exact Or.inr ⟨rfl, by unfold under; omega⟩) h dX11_isUnder_34
          ·
            refine lv_iload_n hx hb dX11_isUnder_24 rfl (lv_at hl 1 rfl) ?_
            refine lv_iconst (v := nI 1) hx hb dX11_isUnder_25 (by decide) ?_
            refine n_cne hx hb (by omega) (by omega) (tgt := 33) dX11_isUnder_26 (by decide) (fun c26 => ?_) (fun c26 => ?_)
            ·
              refine lv_iconst (v := nI 0) hx hb dX11_isUnder_33 (by decide) ?_
              exact hret _ () _ _ _ _ (by decide) (by first | exact Or.inl ⟨rfl, by unfold under; omega⟩ | exact Or.inr ⟨rfl, by unfold under; omega⟩) h dX11_isUnder_34
            ·
              refine lv_iconst (v := nI 1) hx hb dX11_isUnder_29 (by decide) ?_
              refine lv_goto (tgt := 34) hx hb dX11_isUnder_30 (by decide) ?_
              exact hret _ () _ _ _ _ (by decide) (by first | exact Or.inl ⟨rfl, by unfold under; omega⟩ | exact Or.inr ⟨rfl, by unfold under; omega⟩) h dX11_isUnder_34
theorem kw_RX11_138 : GoodIn wsL_law (va_wsS RX11 138 yX11_isUnder (WS yX11_isUnder cX11_isUnder 2 (some .boolean))) := gS (rin20 _ (List.mem_of_getElem? (i := 9) rfl)) (rin20 _ (List.mem_of_getElem? (i := 10) rfl)) (rin1 _ (List.mem_of_getElem? (i := 5) rfl)) (rin20 _ (List.mem_of_getElem? (i := 11) rfl))
theorem kdS_X11_isUnder : yX11_isUnder.cls ≠ "java/lang/invoke/MethodHandle" ∧ yX11_isUnder.cls ≠ "java/lang/invoke/VarHandle" ∧ (parseMethodDescriptor yX11_isUnder.desc).map (fun d => d.parameters.length) = some 2 := ⟨by decide +kernel, by decide +kernel, by decide +kernel⟩
set_option maxHeartbeats 4000000 in
set_option maxRecDepth 100000 in
theorem c_X11_as {x y : Int32} (hI : Inv f) : Ki G l yX11_as cX11_as 3 (some .int) (RM 3 46) [.ref (a 0), .int x, .int y] (wM G a f g o d st du tb bi si nu mo kp it tn fr to vl wr) (fun u : Nat → Nat => wM G a f g o d u du tb bi si nu mo kp it tn fr to vl wr) (fun r u => P_as f st x y r u) := by
  refine Ki.of (by decide) (Nat.le_of_ble_eq_true rfl) ?_
  intro p e s m args below meth c A Q ls hx hb S0 hG hA h hret hl
  have S0 : CF p m c cX11_as 3 s args RX11 := S0
  have hl : lv_has ls 3 [(0, .ref (a 0)), (1, .int x), (2, .int y)] := hl
  have h1 := hI.2.1
  refine lv_aload_n hx hb dX11_as_0 rfl (lv_at hl 0 rfl) ?_
  refine lv_iload_n hx hb dX11_as_1 rfl (lv_at hl 1 rfl) ?_
  refine cV_i0 S0 hG hA h hl.1 kw_RX11_123 kdV_X11_isPerson (c_X11_isPerson (by omega)) ⟨rfl, rfl, by decide, by decide, Nat.le_refl _, Nat.le_refl _⟩ rfl 11 0 rfl rfl rfl (Nat.le_of_ble_eq_true rfl) dX11_as_2 (fun _ => rfl) (fun r u H locs hq h => ?_)
  rcases hq with ⟨rfl, b2⟩ | ⟨rfl, b2⟩
  ·
    obtain ⟨xn, rfl, xh, xq⟩ := inR_nat (x := x) ⟨Int.le_trans (by decide) b2.1, b2.2⟩
    have xr := (inR_n xq).mp b2
    refine n_zeq hx hb (by decide) (tgt := 15) dX11_as_5 (by decide) (fun q => absurd q (by decide)) (fun _ => ?_)
    refine lv_iload_n hx hb dX11_as_8 rfl (lv_at hl 2 rfl) ?_
    refine cS_iE S0 hG hA h hl.1 kw_RX11_116 kdS_X11_isKind (c_X11_isKind) ⟨rfl, rfl, by decide, by decide, Nat.le_refl _, Nat.le_refl _⟩ rfl rfl (Nat.le_of_ble_eq_true rfl) dX11_as_9 (fun r u H locs hq h => ?_)
    rcases hq with ⟨rfl, b9⟩ | ⟨rfl, b9⟩
    ·
      obtain ⟨yn, rfl, yh, yq⟩ := inR_nat (x := y) ⟨Int.le_trans (by decide) b9.1, b9.2⟩
      have yr := (inR_n yq).mp b9
      refine n_zne hx hb (by decide) (tgt := 22) dX11_as_12 (by decide) (fun _ => ?_) (fun q => absurd q (by decide))
      refine lv_aload_n hx hb dX11_as_22 rfl (lv_at hl 0 rfl) ?_
      refine lv_iload_n hx hb dX11_as_23 rfl (lv_at hl 1 rfl) ?_
      refine lv_iconst (v := nI 0) hx hb dX11_as_24 (by decide) ?_
      refine cV_i0 S0 hG hA h hl.1 kw_RX11_59 kdV_X11_its (c_X11_its (by omega) (by omega)) ⟨rfl, rfl, by decide, by decide, Nat.le_refl _, Nat.le_refl _⟩ rfl 11 0 rfl rfl rfl (Nat.le_of_ble_eq_true rfl) dX11_as_25 (fun _ => rfl) (fun r u H locs hq h => ?_)
      obtain rfl := hq
      refine lv_iload_n hx hb dX11_as_28 rfl (lv_at hl 2 rfl) ?_
      have h5 := hI.2.2.2.2 xn (by omega)
      refine cS_iE S0 hG hA h hl.1 kw_RX11_138 kdS_X11_isUnder (c_X11_isUnder (by omega) (by omega)) ⟨rfl, rfl, by decide, by decide, Nat.le_refl _, Nat.le_refl _⟩ rfl rfl (Nat.le_of_ble_eq_true rfl) dX11_as_29 (fun r u H locs hq h => ?_)
      rcases hq with ⟨rfl, b29⟩ | ⟨rfl, b29⟩
      ·
        refine n_zeq hx hb (by decide) (tgt := 44) dX11_as_32 (by decide) (fun q => absurd q (by decide)) (fun _ => ?_)
        refine lv_aload_n hx hb dX11_as_35 rfl (lv_at hl 0 rfl) ?_
        refine lv_iload_n hx hb dX11_as_36 rfl (lv_at hl 1 rfl) ?_
        refine lv_iconst (v := nI 3) hx hb dX11_as_37 (by decide) ?_
        refine cV_i0 S0 hG hA h hl.1 kw_RX11_59 kdV_X11_its (c_X11_its (by omega) (by omega)) ⟨rfl, rfl, by decide, by decide, Nat.le_refl _, Nat.le_refl _⟩ rfl 11 0 rfl rfl rfl (Nat.le_of_ble_eq_true rfl) dX11_as_38 (fun _ => rfl) (fun r u H locs hq h => ?_)
        obtain rfl := hq
        refine lv_goto (tgt := 50) hx hb dX11_as_41 (by decide) ?_
        exact hret _ _ _ _ _ _ (Or.inl ⟨⟨b2, b9⟩, Or.inl ⟨by rw [nt_nI xq, nt_nI yq]; exact b29, by rw [nt_nI xq], rfl⟩⟩) h dX11_as_50
      ·
        refine n_zeq hx hb (by decide) (tgt := 44) dX11_as_32 (by decide) (fun _ => ?_) (fun q => absurd q (by decide))
        refine lv_aload_n hx hb dX11_as_44 rfl (lv_at hl 0 rfl) ?_
        refine lv_ldc (v := -1000000003) hx hb S0.2.2.2.1 (S0.2.2.2.2 _ (rin20 _ (List.mem_of_getElem? (i := 8) rfl))) dX11_as_45 ?_
        refine cV_i0 S0 hG hA h hl.1 kw_RX11_76 kdV_X11_finds (c_X11_finds (k := 2) (by decide) (by decide)) ⟨rfl, rfl, by decide, by decide, Nat.le_refl _, Nat.le_refl _⟩ rfl 11 0 rfl rfl rfl (Nat.le_of_ble_eq_true rfl) dX11_as_47 (fun _ => rfl) (fun r u H locs hq h => ?_)
        obtain rfl := hq
        exact hret _ _ _ _ _ _ (Or.inl ⟨⟨b2, b9⟩, Or.inr ⟨by rw [nt_nI xq, nt_nI yq]; exact b29, rfl, rfl⟩⟩) h dX11_as_50
    ·
      refine n_zne hx hb (by decide) (tgt := 22) dX11_as_12 (by decide) (fun q => absurd q (by decide)) (fun _ => ?_)
      refine lv_aload_n hx hb dX11_as_15 rfl (lv_at hl 0 rfl) ?_
      refine lv_ldc (v := -1000000001) hx hb S0.2.2.2.1 (S0.2.2.2.2 _ (rin6 _ (List.mem_of_getElem? (i := 21) rfl))) dX11_as_16 ?_
      refine cV_i0 S0 hG hA h hl.1 kw_RX11_76 kdV_X11_finds (c_X11_finds (k := 0) (by decide) (by decide)) ⟨rfl, rfl, by decide, by decide, Nat.le_refl _, Nat.le_refl _⟩ rfl 11 0 rfl rfl rfl (Nat.le_of_ble_eq_true rfl) dX11_as_18 (fun _ => rfl) (fun r u H locs hq h => ?_)
      obtain rfl := hq
      exact hret _ _ _ _ _ _ (Or.inr ⟨by first | exact fun q => b2 q.1 | exact fun q => b9 q.2, rfl, rfl⟩) h dX11_as_21
  ·
    refine n_zeq hx hb (by decide) (tgt := 15) dX11_as_5 (by decide) (fun _ => ?_) (fun q => absurd q (by decide))
    refine lv_aload_n hx hb dX11_as_15 rfl (lv_at hl 0 rfl) ?_
    refine lv_ldc (v := -1000000001) hx hb S0.2.2.2.1 (S0.2.2.2.2 _ (rin6 _ (List.mem_of_getElem? (i := 21) rfl))) dX11_as_16 ?_
    refine cV_i0 S0 hG hA h hl.1 kw_RX11_76 kdV_X11_finds (c_X11_finds (k := 0) (by decide) (by decide)) ⟨rfl, rfl, by decide, by decide, Nat.le_refl _, Nat.le_refl _⟩ rfl 11 0 rfl rfl rfl (Nat.le_of_ble_eq_true rfl) dX11_as_18 (fun _ => rfl) (fun r u H locs hq h => ?_)
    obtain rfl := hq
    exact hret _ _ _ _ _ _ (Or.inr ⟨by first | exact fun q => b2 q.1 | exact fun q => b9 q.2, rfl, rfl⟩) h dX11_as_21
set_option maxHeartbeats 4000000 in
set_option maxRecDepth 100000 in
theorem c_X11_minutes {x : Int32} (hI : Inv f) : Ki G l yX11_minutes cX11_minutes 2 (some .int) (RM 10 205) [.ref (a 0), .int x] (wM G a f g o d st du tb bi si nu mo kp it tn fr to vl wr) (fun u : (Nat → Nat) × (Nat → Nat) × (Nat → Nat) × Nat => wM G a u.1 g o d u.2.1 u.2.2.1 tb bi si nu mo kp u.2.2.2 tn fr to vl wr) (fun r u => P_minutes f st x r u.1 u.2.1) := by
  refine Ki.of (by decide) (Nat.le_of_ble_eq_true rfl) ?_
  intro p e s m args below meth c A Q ls hx hb S0 hG hA h hret hl
  have S0 : CF p m c cX11_minutes 2 s args RX11 := S0
  have hl : lv_has ls 2 [(0, .ref (a 0)), (1, .int x)] := hl
  have h1 := hI.2.1
  have h0 := hI.1
  refine lv_iload_n hx hb dX11_minutes_0 rfl (lv_at hl 1 rfl) ?_
  refine lv_i2l hx hb dX11_minutes_1 rfl ?_
  refine lv_lconst (v := 1) hx hb dX11_minutes_2 (by decide) ?_
  refine lv_ldc2 (v := 200) hx hb S0.2.2.2.1 (S0.2.2.2.2 _ (rin21 _ (List.mem_of_getElem? (i := 20) rfl))) dX11_minutes_3 ?_
  refine cS_iE S0 hG hA h hl.1 kw_RX11_49 kdS_X11_in (c_X11_in) ⟨rfl, rfl, by decide, by decide, Nat.le_refl _, Nat.le_refl _⟩ rfl rfl (Nat.le_of_ble_eq_true rfl) dX11_minutes_6 (fun r u H locs hq h => ?_)
  rcases hq with ⟨rfl, b6⟩ | ⟨rfl, b6⟩
  ·
    have b6 : inR x 1 200 := by simpa [inR, i2l_toInt] using b6
    obtain ⟨xn, rfl, xh, xq⟩ := inR_nat (x := x) ⟨Int.le_trans (by decide) b6.1, b6.2⟩
    have xr := (inR_n xq).mp b6
    refine n_zne hx hb (by decide) (tgt := 19) dX11_minutes_9 (by decide) (fun _ => ?_) (fun q => absurd q (by decide))
    refine lv_aload_n hx hb dX11_minutes_19 rfl (lv_at hl 0 rfl) ?_
    refine gM_s S0 hG h dX11_minutes_20 ?_
    refine lv_iconst (v := nI 0) hx hb dX11_minutes_23 (by decide) ?_
    refine rM_s S0 hG h (by omega) dX11_minutes_24 ?_
    refine lv_iload_n hx hb dX11_minutes_25 rfl (lv_at hl 1 rfl) ?_
    refine n_add hx hb dX11_minutes_26 ?_
    refine lv_ldc (v := nI 99999) hx hb S0.2.2.2.1 (S0.2.2.2.2 _ (rin21 _ (List.mem_of_getElem? (i := 21) rfl))) dX11_minutes_27 ?_
    refine n_cle hx hb (by omega) (by omega) (tgt := 39) dX11_minutes_29 (by decide) (fun c29 => ?_) (fun c29 => ?_)
    ·
      refine lv_aload_n hx hb dX11_minutes_39 rfl (lv_at hl 0 rfl) ?_
      refine lv_iload_n hx hb dX11_minutes_40 rfl (lv_at hl 1 rfl) ?_
      refine cV_v0 S0 hG hA h hl.1 kw_RX11_158 kdV_X11_minutesGo (c_X11_minutesGo hI (by omega)) ⟨rfl, rfl, by decide, by decide, Nat.le_refl _, Nat.le_refl _⟩ rfl 11 0 rfl rfl rfl (Nat.le_of_ble_eq_true rfl) dX11_minutes_41 (fun _ => rfl) (fun u H locs hq h => ?_)
      obtain ⟨u1, u2⟩ := u
      refine lv_aload_n hx hb dX11_minutes_44 rfl (lv_at hl 0 rfl) ?_
      refine gM_inTime S0 hG h dX11_minutes_45 ?_
      exact hret _ (goF f xn, st, _, _) _ _ _ _ (Or.inl ⟨b6, Or.inr ⟨by rw [nt_nI xq]; exact c29, by rw [nt_nI xq]; exact nI_cong (hq.2 (by omega)), by rw [nt_nI xq], rfl⟩⟩) h dX11_minutes_48
    ·
      refine lv_aload_n hx hb dX11_minutes_32 rfl (lv_at hl 0 rfl) ?_
      refine lv_ldc (v := -1000000005) hx hb S0.2.2.2.1 (S0.2.2.2.2 _ (rin21 _ (List.mem_of_getElem? (i := 22) rfl))) dX11_minutes_33 ?_
      refine cV_i0 S0 hG hA h hl.1 kw_RX11_76 kdV_X11_finds (c_X11_finds (k := 4) (by decide) (by decide)) ⟨rfl, rfl, by decide, by decide, Nat.le_refl _, Nat.le_refl _⟩ rfl 11 0 rfl rfl rfl (Nat.le_of_ble_eq_true rfl) dX11_minutes_35 (fun _ => rfl) (fun r u H locs hq h => ?_)
      obtain rfl := hq
      exact hret _ (_, _, _, _) _ _ _ _ (Or.inl ⟨b6, Or.inl ⟨by rw [nt_nI xq]; exact c29, rfl, rfl, rfl⟩⟩) h dX11_minutes_38
  ·
    have b6 : ¬ inR x 1 200 := by simpa [inR, i2l_toInt] using b6
    refine n_zne hx hb (by decide) (tgt := 19) dX11_minutes_9 (by decide) (fun q => absurd q (by decide)) (fun _ => ?_)
    refine lv_aload_n hx hb dX11_minutes_12 rfl (lv_at hl 0 rfl) ?_
    refine lv_ldc (v := -1000000001) hx hb S0.2.2.2.1 (S0.2.2.2.2 _ (rin6 _ (List.mem_of_getElem? (i := 21) rfl))) dX11_minutes_13 ?_
    refine cV_i0 S0 hG hA h hl.1 kw_RX11_76 kdV_X11_finds (c_X11_finds (k := 0) (by decide) (by decide)) ⟨rfl, rfl, by decide, by decide, Nat.le_refl _, Nat.le_refl _⟩ rfl 11 0 rfl rfl rfl (Nat.le_of_ble_eq_true rfl) dX11_minutes_15 (fun _ => rfl) (fun r u H locs hq h => ?_)
    obtain rfl := hq
    exact hret _ (_, _, _, _) _ _ _ _ (Or.inr ⟨b6, rfl, rfl, rfl⟩) h dX11_minutes_18
theorem kw_RX11_169 : GoodIn wsL_law (va_wsS RX11 169 yX11_isAhead (WS yX11_isAhead cX11_isAhead 1 (some .boolean))) := gS (rin23 _ (List.mem_of_getElem? (i := 3) rfl)) (rin23 _ (List.mem_of_getElem? (i := 4) rfl)) (rin1 _ (List.mem_of_getElem? (i := 5) rfl)) (rin23 _ (List.mem_of_getElem? (i := 5) rfl))
theorem kdS_X11_isAhead : yX11_isAhead.cls ≠ "java/lang/invoke/MethodHandle" ∧ yX11_isAhead.cls ≠ "java/lang/invoke/VarHandle" ∧ (parseMethodDescriptor yX11_isAhead.desc).map (fun d => d.parameters.length) = some 1 := ⟨by decide +kernel, by decide +kernel, by decide +kernel⟩
set_option maxHeartbeats 4000000 in
set_option maxRecDepth 100000 in
theorem c_X11_on {x y z : Int32} (hI : Inv f) (h9 : f 0 ≤ 99999) : Ki G l yX11_on cX11_on 4 (some .int) (RM 11 227) [.ref (a 0), .int x, .int y, .int z] (wM G a f g o d st du tb bi si nu mo kp it tn fr to vl wr) (fun u : (Nat → Nat) × (Nat → Nat) × (Nat → Nat) × Nat => wM G a f g o u.2.1 u.1 u.2.2.1 tb bi si nu mo kp u.2.2.2 tn fr to vl wr) (fun r u => P_on f st x y z r u.1) := by
  refine Ki.of (by decide) (Nat.le_of_ble_eq_true rfl) ?_
  intro p e s m args below meth c A Q ls hx hb S0 hG hA h hret hl
  have S0 : CF p m c cX11_on 4 s args RX11 := S0
  have hl : lv_has ls 4 [(0, .ref (a 0)), (1, .int x), (2, .int y), (3, .int z)] := hl
  have h1 := hI.2.1
  refine lv_aload_n hx hb dX11_on_0 rfl (lv_at hl 0 rfl) ?_
  refine lv_iload_n hx hb dX11_on_1 rfl (lv_at hl 1 rfl) ?_
  refine cV_i0 S0 hG hA h hl.1 kw_RX11_123 kdV_X11_isPerson (c_X11_isPerson (by omega)) ⟨rfl, rfl, by decide, by decide, Nat.le_refl _, Nat.le_refl _⟩ rfl 11 0 rfl rfl rfl (Nat.le_of_ble_eq_true rfl) dX11_on_2 (fun _ => rfl) (fun r u H locs hq h => ?_)
  rcases hq with ⟨rfl, b2⟩ | ⟨rfl, b2⟩
  ·
    obtain ⟨xn, rfl, xh, xq⟩ := inR_nat (x := x) ⟨Int.le_trans (by decide) b2.1, b2.2⟩
    have xr := (inR_n xq).mp b2
    refine n_zeq hx hb (by decide) (tgt := 27) dX11_on_5 (by decide) (fun q => absurd q (by decide)) (fun _ => ?_)
    refine lv_iload_n hx hb dX11_on_8 rfl (lv_at hl 2 rfl) ?_
    refine cS_iE S0 hG hA h hl.1 kw_RX11_169 kdS_X11_isAhead (c_X11_isAhead) ⟨rfl, rfl, by decide, by decide, Nat.le_refl _, Nat.le_refl _⟩ rfl rfl (Nat.le_of_ble_eq_true rfl) dX11_on_9 (fun r u H locs hq h => ?_)
    rcases hq with ⟨rfl, b9⟩ | ⟨rfl, b9⟩
    ·
      obtain ⟨yn, rfl, yh, yq⟩ := inR_nat (x := y) ⟨Int.le_trans (by decide) b9.1, b9.2⟩
      have yr := (inR_n yq).mp b9
      refine n_zeq hx hb (by decide) (tgt := 27) dX11_on_12 (by decide) (fun q => absurd q (by decide)) (fun _ => ?_)
      refine lv_iload_n hx hb dX11_on_15 rfl (lv_at hl 3 rfl) ?_
      refine lv_i2l hx hb dX11_on_16 rfl ?_
      refine lv_lconst (v := 0) hx hb dX11_on_17 (by decide) ?_
      refine lv_ldc2 (v := 2) hx hb S0.2.2.2.1 (S0.2.2.2.2 _ (rin8 _ (List.mem_of_getElem? (i := 5) rfl))) dX11_on_18 ?_
      refine cS_iE S0 hG hA h hl.1 kw_RX11_49 kdS_X11_in (c_X11_in) ⟨rfl, rfl, by decide, by decide, Nat.le_refl _, Nat.le_refl _⟩ rfl rfl (Nat.le_of_ble_eq_true rfl) dX11_on_21 (fun r u H locs hq h => ?_)
      rcases hq with ⟨rfl, b21⟩ | ⟨rfl, b21⟩
      ·
        have b21 : inR z 0 2 := by simpa [inR, i2l_toInt] using b21
        obtain ⟨zn, rfl, zh, zq⟩ := inR_nat (x := z) ⟨Int.le_trans (by decide) b21.1, b21.2⟩
        have zr := (inR_n zq).mp b21
        refine n_zne hx hb (by decide) (tgt := 34) dX11_on_24 (by decide) (fun _ => ?_) (fun q => absurd q (by decide))
        refine lv_aload_n hx hb dX11_on_34 rfl (lv_at hl 0 rfl) ?_
        refine lv_iload_n hx hb dX11_on_35 rfl (lv_at hl 1 rfl) ?_
        refine lv_iload_n hx hb dX11_on_36 rfl (lv_at hl 3 rfl) ?_
        refine n_zne hx hb (by omega) (tgt := 44) dX11_on_37 (by decide) (fun c37 => ?_) (fun c37 => ?_)
        ·
          refine lv_iload_n hx hb dX11_on_44 rfl (lv_at hl 3 rfl) ?_
          refine lv_iconst (v := nI 1) hx hb dX11_on_45 (by decide) ?_
          refine n_cne hx hb (by omega) (by omega) (tgt := 53) dX11_on_46 (by decide) (fun c46 => ?_) (fun c46 => ?_)
          ·
            refine lv_iconst (v := nI 4) hx hb dX11_on_53 (by decide) ?_
            refine cS_iE S0 hG hA h hl.1 kw_RX11_45 kdS_X11_spot (c_X11_spot) ⟨rfl, rfl, by decide, by decide, Nat.le_refl _, Nat.le_refl _⟩ rfl rfl (Nat.le_of_ble_eq_true rfl) dX11_on_54 (fun r u H locs hq h => ?_)
            obtain rfl := hq
            refine lv_iload_n hx hb dX11_on_57 rfl (lv_at hl 2 rfl) ?_
            refine cV_i0 S0 hG hA h hl.1 kw_RX11_172 kdV_X11_behind (c_X11_behind hI (by omega) (Or.inr ⟨_, rfl, by omega⟩)) ⟨rfl, rfl, by decide, by decide, Nat.le_refl _, Nat.le_refl _⟩ rfl 11 0 rfl rfl rfl (Nat.le_of_ble_eq_true rfl) dX11_on_58 (fun _ => rfl) (fun r u H locs hq h => ?_)
            obtain ⟨u1, u2⟩ := u
            obtain rfl := hq
            exact hret _ (st, _, _, _) _ _ _ _ (Or.inl ⟨⟨b2, b9, b21⟩, by rw [valB_w _ (by omega), nt_nI xq, nt_nI yq, nI_toInt zq]; unfold onW its; (repeat' split) <;> first | rfl | (exfalso; omega), rfl⟩) h dX11_on_61
          ·
            refine lv_iconst (v := nI 3) hx hb dX11_on_49 (by decide) ?_
            refine lv_goto (tgt := 54) hx hb dX11_on_50 (by decide) ?_
            refine cS_iE S0 hG hA h hl.1 kw_RX11_45 kdS_X11_spot (c_X11_spot) ⟨rfl, rfl, by decide, by decide, Nat.le_refl _, Nat.le_refl _⟩ rfl rfl (Nat.le_of_ble_eq_true rfl) dX11_on_54 (fun r u H locs hq h => ?_)
            obtain rfl := hq
            refine lv_iload_n hx hb dX11_on_57 rfl (lv_at hl 2 rfl) ?_
            refine cV_i0 S0 hG hA h hl.1 kw_RX11_172 kdV_X11_behind (c_X11_behind hI (by omega) (Or.inr ⟨_, rfl, by omega⟩)) ⟨rfl, rfl, by decide, by decide, Nat.le_refl _, Nat.le_refl _⟩ rfl 11 0 rfl rfl rfl (Nat.le_of_ble_eq_true rfl) dX11_on_58 (fun _ => rfl) (fun r u H locs hq h => ?_)
            obtain ⟨u1, u2⟩ := u
            obtain rfl := hq
            exact hret _ (st, _, _, _) _ _ _ _ (Or.inl ⟨⟨b2, b9, b21⟩, by rw [valB_w _ (by omega), nt_nI xq, nt_nI yq, nI_toInt zq]; unfold onW its; (repeat' split) <;> first | rfl | (exfalso; omega), rfl⟩) h dX11_on_61
        ·
          refine lv_iconst (v := nI 1) hx hb dX11_on_40 (by decide) ?_
          refine lv_goto (tgt := 54) hx hb dX11_on_41 (by decide) ?_
          refine cS_iE S0 hG hA h hl.1 kw_RX11_45 kdS_X11_spot (c_X11_spot) ⟨rfl, rfl, by decide, by decide, Nat.le_refl _, Nat.le_refl _⟩ rfl rfl (Nat.le_of_ble_eq_true rfl) dX11_on_54 (fun r u H locs hq h => ?_)
          obtain rfl := hq
          refine lv_iload_n hx hb dX11_on_57 rfl (lv_at hl 2 rfl) ?_
          refine cV_i0 S0 hG hA h hl.1 kw_RX11_172 kdV_X11_behind (c_X11_behind hI (by omega) (Or.inr ⟨_, rfl, by omega⟩)) ⟨rfl, rfl, by decide, by decide, Nat.le_refl _, Nat.le_refl _⟩ rfl 11 0 rfl rfl rfl (Nat.le_of_ble_eq_true rfl) dX11_on_58 (fun _ => rfl) (fun r u H locs hq h => ?_)
          obtain ⟨u1, u2⟩ := u
          obtain rfl := hq
          exact hret _ (st, _, _, _) _ _ _ _ (Or.inl ⟨⟨b2, b9, b21⟩, by rw [valB_w _ (by omega), nt_nI xq, nt_nI yq, nI_toInt zq]; unfold onW its; (repeat' split) <;> first | rfl | (exfalso; omega), rfl⟩) h dX11_on_61
      ·
        have b21 : ¬ inR z 0 2 := by simpa [inR, i2l_toInt] using b21
        refine n_zne hx hb (by decide) (tgt := 34) dX11_on_24 (by decide) (fun q => absurd q (by decide)) (fun _ => ?_)
        refine lv_aload_n hx hb dX11_on_27 rfl (lv_at hl 0 rfl) ?_
        refine lv_ldc (v := -1000000001) hx hb S0.2.2.2.1 (S0.2.2.2.2 _ (rin6 _ (List.mem_of_getElem? (i := 21) rfl))) dX11_on_28 ?_
        refine cV_i0 S0 hG hA h hl.1 kw_RX11_76 kdV_X11_finds (c_X11_finds (k := 0) (by decide) (by decide)) ⟨rfl, rfl, by decide, by decide, Nat.le_refl _, Nat.le_refl _⟩ rfl 11 0 rfl rfl rfl (Nat.le_of_ble_eq_true rfl) dX11_on_30 (fun _ => rfl) (fun r u H locs hq h => ?_)
        obtain rfl := hq
        exact hret _ (_, _, _, _) _ _ _ _ (Or.inr ⟨by first | exact fun q => b2 q.1 | exact fun q => b9 q.2.1 | exact fun q => b21 q.2.2, rfl, rfl⟩) h dX11_on_33
    ·
      refine n_zeq hx hb (by decide) (tgt := 27) dX11_on_12 (by decide) (fun _ => ?_) (fun q => absurd q (by decide))
      refine lv_aload_n hx hb dX11_on_27 rfl (lv_at hl 0 rfl) ?_
      refine lv_ldc (v := -1000000001) hx hb S0.2.2.2.1 (S0.2.2.2.2 _ (rin6 _ (List.mem_of_getElem? (i := 21) rfl))) dX11_on_28 ?_
      refine cV_i0 S0 hG hA h hl.1 kw_RX11_76 kdV_X11_finds (c_X11_finds (k := 0) (by decide) (by decide)) ⟨rfl, rfl, by decide, by decide, Nat.le_refl _, Nat.le_refl _⟩ rfl 11 0 rfl rfl rfl (Nat.le_of_ble_eq_true rfl) dX11_on_30 (fun _ => rfl) (fun r u H locs hq h => ?_)
      obtain rfl := hq
      exact hret _ (_, _, _, _) _ _ _ _ (Or.inr ⟨by first | exact fun q => b2 q.1 | exact fun q => b9 q.2.1 | exact fun q => b21 q.2.2, rfl, rfl⟩) h dX11_on_33
  ·
    refine n_zeq hx hb (by decide) (tgt := 27) dX11_on_5 (by decide) (fun _ => ?_) (fun q => absurd q (by decide))
    refine lv_aload_n hx hb dX11_on_27 rfl (lv_at hl 0 rfl) ?_
    refine lv_ldc (v := -1000000001) hx hb S0.2.2.2.1 (S0.2.2.2.2 _ (rin6 _ (List.mem_of_getElem? (i := 21) rfl))) dX11_on_28 ?_
    refine cV_i0 S0 hG hA h hl.1 kw_RX11_76 kdV_X11_finds (c_X11_finds (k := 0) (by decide) (by decide)) ⟨rfl, rfl, by decide, by decide, Nat.le_refl _, Nat.le_refl _⟩ rfl 11 0 rfl rfl rfl (Nat.le_of_ble_eq_true rfl) dX11_on_30 (fun _ => rfl) (fun r u H locs hq h => ?_)
    obtain rfl := hq
    exact hret _ (_, _, _, _) _ _ _ _ (Or.inr ⟨by first | exact fun q => b2 q.1 | exact fun q => b9 q.2.1 | exact fun q => b21 q.2.2, rfl, rfl⟩) h dX11_on_33
set_option maxHeartbeats 4000000 in
set_option maxRecDepth 100000 in
theorem c_X11_harmony {x : Int32} (hI : Inv f) (h9 : f 0 ≤ 99999) : Ki G l yX11_harmony cX11_harmony 2 (some .int) (RM 11 227) [.ref (a 0), .int x] (wM G a f g o d st du tb bi si nu mo kp it tn fr to vl wr) (fun u : (Nat → Nat) × (Nat → Nat) × (Nat → Nat) × Nat => wM G a f g o u.2.1 u.1 u.2.2.1 tb bi si nu mo kp u.2.2.2 tn fr to vl wr) (fun r u => P_harmony f st x r u.1) := by
  refine Ki.of (by decide) (Nat.le_of_ble_eq_true rfl) ?_
  intro p e s m args below meth c A Q ls hx hb S0 hG hA h hret hl
  have S0 : CF p m c cX11_harmony 2 s args RX11 := S0
  have hl : lv_has ls 2 [(0, .ref (a 0)), (1, .int x)] := hl
  have h1 := hI.2.1
  refine lv_iload_n hx hb dX11_harmony_0 rfl (lv_at hl 1 rfl) ?_
  refine cS_iE S0 hG hA h hl.1 kw_RX11_169 kdS_X11_isAhead (c_X11_isAhead) ⟨rfl, rfl, by decide, by decide, Nat.le_refl _, Nat.le_refl _⟩ rfl rfl (Nat.le_of_ble_eq_true rfl) dX11_harmony_1 (fun r u H locs hq h => ?_)
  rcases hq with ⟨rfl, b1⟩ | ⟨rfl, b1⟩
  ·
    obtain ⟨xn, rfl, xh, xq⟩ := inR_nat (x := x) ⟨Int.le_trans (by decide) b1.1, b1.2⟩
    have xr := (inR_n xq).mp b1
    refine n_zeq hx hb (by decide) (tgt := 16) dX11_harmony_4 (by decide) (fun q => absurd q (by decide)) (fun _ => ?_)
    refine lv_aload_n hx hb dX11_harmony_7 rfl (lv_at hl 0 rfl) ?_
    refine lv_iconst (v := -1) hx hb dX11_harmony_8 (by decide) ?_
    refine lv_iload_n hx hb dX11_harmony_9 rfl (lv_at hl 1 rfl) ?_
    refine cV_i0 S0 hG hA h hl.1 kw_RX11_172 kdV_X11_behind (c_X11_behind hI (by omega) (Or.inl rfl)) ⟨rfl, rfl, by decide, by decide, Nat.le_refl _, Nat.le_refl _⟩ rfl 11 0 rfl rfl rfl (Nat.le_of_ble_eq_true rfl) dX11_harmony_10 (fun _ => rfl) (fun r u H locs hq h => ?_)
    obtain ⟨u1, u2⟩ := u
    obtain rfl := hq
    refine lv_goto (tgt := 22) hx hb dX11_harmony_13 (by decide) ?_
    exact hret _ (st, _, _, _) _ _ _ _ (Or.inl ⟨b1, by rw [valB_h, nt_nI xq], rfl⟩) h dX11_harmony_22
  ·
    refine n_zeq hx hb (by decide) (tgt := 16) dX11_harmony_4 (by decide) (fun _ => ?_) (fun q => absurd q (by decide))
    refine lv_aload_n hx hb dX11_harmony_16 rfl (lv_at hl 0 rfl) ?_
    refine lv_ldc (v := -1000000001) hx hb S0.2.2.2.1 (S0.2.2.2.2 _ (rin6 _ (List.mem_of_getElem? (i := 21) rfl))) dX11_harmony_17 ?_
    refine cV_i0 S0 hG hA h hl.1 kw_RX11_76 kdV_X11_finds (c_X11_finds (k := 0) (by decide) (by decide)) ⟨rfl, rfl, by decide, by decide, Nat.le_refl _, Nat.le_refl _⟩ rfl 11 0 rfl rfl rfl (Nat.le_of_ble_eq_true rfl) dX11_harmony_19 (fun _ => rfl) (fun r u H locs hq h => ?_)
    obtain rfl := hq
    exact hret _ (_, _, _, _) _ _ _ _ (Or.inr ⟨b1, rfl, rfl⟩) h dX11_harmony_22
theorem kw_RX11_176 : GoodIn wsL_law (wsV RX11 176 RX11 yX11_toldAt (WS yX11_toldAt cX11_toldAt 3 (some .int))) := gV (rin24 _ (List.mem_of_getElem? (i := 12) rfl)) (rin24 _ (List.mem_of_getElem? (i := 13) rfl)) (rin24 _ (List.mem_of_getElem? (i := 14) rfl)) (rin1 _ (List.mem_of_getElem? (i := 5) rfl)) (rin24 _ (List.mem_of_getElem? (i := 15) rfl))
theorem kdV_X11_toldAt : yX11_toldAt.cls = RX11 ∧ yX11_toldAt.cls ≠ "java/lang/invoke/MethodHandle" ∧ yX11_toldAt.cls ≠ "java/lang/invoke/VarHandle" ∧ (parseMethodDescriptor yX11_toldAt.desc).map (fun d => d.parameters.length) = some 1 := ⟨rfl, by decide +kernel, by decide +kernel, by decide +kernel⟩
set_option maxHeartbeats 4000000 in
set_option maxRecDepth 100000 in
theorem c_X11_comes {x y : Int32} (hI : Inv f) (h9 : f 0 ≤ 99999) : Ki G l yX11_comes cX11_comes 4 (some .int) (RM 9 183) [.ref (a 0), .int x, .int y] (wM G a f g o d st du tb bi si nu mo kp it tn fr to vl wr) (fun u : (Nat → Nat) × (Nat → Nat) × (Nat → Nat) × Nat => wM G a f g o u.2.1 u.1 u.2.2.1 tb bi si nu mo kp u.2.2.2 tn fr to vl wr) (fun r u => P_comes f st x y r u.1) := by
  refine Ki.of (by decide) (Nat.le_of_ble_eq_true rfl) ?_
  intro p e s m args below meth c A Q ls hx hb S0 hG hA h hret hl
  have S0 : CF p m c cX11_comes 4 s args RX11 := S0
  have hl : lv_has ls 4 [(0, .ref (a 0)), (1, .int x), (2, .int y)] := hl
  have h1 := hI.2.1
  refine lv_aload_n hx hb dX11_comes_0 rfl (lv_at hl 0 rfl) ?_
  refine lv_iload_n hx hb dX11_comes_1 rfl (lv_at hl 1 rfl) ?_
  refine cV_i0 S0 hG hA h hl.1 kw_RX11_123 kdV_X11_isPerson (c_X11_isPerson (by omega)) ⟨rfl, rfl, by decide, by decide, Nat.le_refl _, Nat.le_refl _⟩ rfl 11 0 rfl rfl rfl (Nat.le_of_ble_eq_true rfl) dX11_comes_2 (fun _ => rfl) (fun r u H locs hq h => ?_)
  rcases hq with ⟨rfl, b2⟩ | ⟨rfl, b2⟩
  ·
    obtain ⟨xn, rfl, xh, xq⟩ := inR_nat (x := x) ⟨Int.le_trans (by decide) b2.1, b2.2⟩
    have xr := (inR_n xq).mp b2
    refine n_zeq hx hb (by decide) (tgt := 15) dX11_comes_5 (by decide) (fun q => absurd q (by decide)) (fun _ => ?_)
    refine lv_iload_n hx hb dX11_comes_8 rfl (lv_at hl 2 rfl) ?_
    refine cS_iE S0 hG hA h hl.1 kw_RX11_70 kdS_X11_isSpot (c_X11_isSpot) ⟨rfl, rfl, by decide, by decide, Nat.le_refl _, Nat.le_refl _⟩ rfl rfl (Nat.le_of_ble_eq_true rfl) dX11_comes_9 (fun r u H locs hq h => ?_)
    rcases hq with ⟨rfl, b9⟩ | ⟨rfl, b9⟩
    ·
      obtain ⟨yn, rfl, yh, yq⟩ := inR_nat (x := y) ⟨Int.le_trans (by decide) b9.1, b9.2⟩
      have yr := (inR_n yq).mp b9
      refine n_zne hx hb (by decide) (tgt := 22) dX11_comes_12 (by decide) (fun _ => ?_) (fun q => absurd q (by decide))
      refine lv_aload_n hx hb dX11_comes_22 rfl (lv_at hl 0 rfl) ?_
      refine cV_v0 S0 hG hA h hl.1 kw_RX11_163 kdV_X11_laysAside (c_X11_laysAside) ⟨rfl, rfl, by decide, by decide, Nat.le_refl _, Nat.le_refl _⟩ rfl 11 0 rfl rfl rfl (Nat.le_of_ble_eq_true rfl) dX11_comes_23 (fun _ => rfl) (fun u H locs hq h => ?_)
      refine lv_iconst (v := nI 0) hx hb dX11_comes_26 (by decide) ?_
      refine lv_istore_n hx hb dX11_comes_27 rfl hl (by decide) rfl (fun ls hl => ?_)
      have lp28 : ∀ (kf : Nat) (i : Nat) (d2 : Nat → Nat) (t1 : Nat) (H : Heap) (locs : List Loc) (ls : Array Slot) (hi : i ≤ 301) (hn : ∀ j, j < i → ¬ its (goF f j) xn 1 = yn), 301 - i < kf → WX G A s H locs (wM G a (goF f i) g o f st d2 tb bi si nu mo kp t1 tn fr to vl wr) → lv_has ls 4 [(0, .ref (a 0)), (1, .int (nI xn)), (2, .int (nI yn)), (3, .int (nI i))] → W p l e (RM 9 183) s m args below meth c H locs 0 0 Q (F0 m 28 ls []) := by
        intro kf
        induction kf with
        | zero => intro i d2 t1 H locs ls hi hn hm; exact absurd hm (Nat.not_lt_zero _)
        | succ kf ih28 =>
          intro i d2 t1 H locs ls hi hn hm h hl
          have hI9 := goF_inv hI i (by omega)
          have g9 := goF_0 f i
          refine lv_iload_n hx hb dX11_comes_28 rfl (lv_at hl 3 rfl) ?_
          refine lv_sipush (v := nI 300) hx hb dX11_comes_29 (by decide) ?_
          refine n_cgt hx hb (by omega) (by omega) (tgt := 55) dX11_comes_32 (by decide) (fun c32 => ?_) (fun c32 => ?_)
          ·
            refine lv_aload_n hx hb dX11_comes_55 rfl (lv_at hl 0 rfl) ?_
            refine lv_iload_n hx hb dX11_comes_56 rfl (lv_at hl 3 rfl) ?_
            refine cV_i0 S0 hG hA h hl.1 kw_RX11_176 kdV_X11_toldAt (c_X11_toldAt (by omega)) ⟨rfl, rfl, by decide, by decide, Nat.le_refl _, Nat.le_refl _⟩ rfl 11 0 rfl rfl rfl (Nat.le_of_ble_eq_true rfl) dX11_comes_57 (fun _ => rfl) (fun r u H locs hq h => ?_)
            exact hret _ (u, _, _, _) _ _ _ _ (Or.inl ⟨⟨b2, b9⟩, by simp only [nt_nI xq, nt_nI yq]; exact ⟨i, ⟨by omega, hn, fun q => absurd q (by omega)⟩, hq⟩⟩) h dX11_comes_60
          ·
            refine lv_aload_n hx hb dX11_comes_35 rfl (lv_at hl 0 rfl) ?_
            refine lv_iload_n hx hb dX11_comes_36 rfl (lv_at hl 1 rfl) ?_
            refine lv_iconst (v := nI 1) hx hb dX11_comes_37 (by decide) ?_
            refine cV_i0 S0 hG hA h hl.1 kw_RX11_59 kdV_X11_its (c_X11_its (by omega) (by omega)) ⟨rfl, rfl, by decide, by decide, Nat.le_refl _, Nat.le_refl _⟩ rfl 11 0 rfl rfl rfl (Nat.le_of_ble_eq_true rfl) dX11_comes_38 (fun _ => rfl) (fun r u H locs hq h => ?_)
            obtain rfl := hq
            refine lv_iload_n hx hb dX11_comes_41 rfl (lv_at hl 2 rfl) ?_
            have n5 := hI9.2.2.2.2 xn (by omega)
            refine n_ceq hx hb (by omega) (by omega) (tgt := 55) dX11_comes_42 (by decide) (fun c42 => ?_) (fun c42 => ?_)
            ·
              refine lv_aload_n hx hb dX11_comes_55 rfl (lv_at hl 0 rfl) ?_
              refine lv_iload_n hx hb dX11_comes_56 rfl (lv_at hl 3 rfl) ?_
              refine cV_i0 S0 hG hA h hl.1 kw_RX11_176 kdV_X11_toldAt (c_X11_toldAt (by omega)) ⟨rfl, rfl, by decide, by decide, Nat.le_refl _, Nat.le_refl _⟩ rfl 11 0 rfl rfl rfl (Nat.le_of_ble_eq_true rfl) dX11_comes_57 (fun _ => rfl) (fun r u H locs hq h => ?_)
              exact hret _ (u, _, _, _) _ _ _ _ (Or.inl ⟨⟨b2, b9⟩, by simp only [nt_nI xq, nt_nI yq]; exact ⟨i, ⟨by omega, hn, fun _ => c42⟩, hq⟩⟩) h dX11_comes_60
            ·
              refine lv_aload_n hx hb dX11_comes_45 rfl (lv_at hl 0 rfl) ?_
              refine cV_v0 S0 hG hA h hl.1 kw_RX11_151 kdV_X11_minute (c_X11_minute hI9 (by omega)) ⟨rfl, rfl, by decide, by decide, Nat.le_refl _, Nat.le_refl _⟩ rfl 11 0 rfl rfl rfl (Nat.le_of_ble_eq_true rfl) dX11_comes_46 (fun _ => rfl) (fun u H locs hq h => ?_)
              have h : WX G A s _ _ (wM G a (goF f (i + 1)) g o f st u.1 tb bi si nu mo kp u.2 tn fr to vl wr) := h
              obtain ⟨u1, u2⟩ := u
              obtain rfl : u2 = _ := hq
              refine lv_iinc hx hb dX11_comes_49 hl (k := 3) rfl (inc_1 _) (by decide) rfl (fun ls hl => ?_)
              refine lv_goto (tgt := 28) hx hb dX11_comes_52 (by decide) ?_
              exact ih28 (i + 1) _ _ _ _ _ (by omega) (lt_s hn c42) (by omega) h (lv_sub hl [1, 2, 3, 0] rfl)
      exact lp28 _ 0 _ _ _ _ _ (by omega) (fun j q => absurd q (Nat.not_lt_zero _)) (Nat.lt_succ_self _) h (lv_sub hl [1, 2, 3, 0] rfl)
    ·
      refine n_zne hx hb (by decide) (tgt := 22) dX11_comes_12 (by decide) (fun q => absurd q (by decide)) (fun _ => ?_)
      refine lv_aload_n hx hb dX11_comes_15 rfl (lv_at hl 0 rfl) ?_
      refine lv_ldc (v := -1000000001) hx hb S0.2.2.2.1 (S0.2.2.2.2 _ (rin6 _ (List.mem_of_getElem? (i := 21) rfl))) dX11_comes_16 ?_
      refine cV_i0 S0 hG hA h hl.1 kw_RX11_76 kdV_X11_finds (c_X11_finds (k := 0) (by decide) (by decide)) ⟨rfl, rfl, by decide, by decide, Nat.le_refl _, Nat.le_refl _⟩ rfl 11 0 rfl rfl rfl (Nat.le_of_ble_eq_true rfl) dX11_comes_18 (fun _ => rfl) (fun r u H locs hq h => ?_)
      obtain rfl := hq
      exact hret _ (_, _, _, _) _ _ _ _ (Or.inr ⟨by first | exact fun q => b2 q.1 | exact fun q => b9 q.2, rfl, rfl⟩) h dX11_comes_21
  ·
    refine n_zeq hx hb (by decide) (tgt := 15) dX11_comes_5 (by decide) (fun _ => ?_) (fun q => absurd q (by decide))
    refine lv_aload_n hx hb dX11_comes_15 rfl (lv_at hl 0 rfl) ?_
    refine lv_ldc (v := -1000000001) hx hb S0.2.2.2.1 (S0.2.2.2.2 _ (rin6 _ (List.mem_of_getElem? (i := 21) rfl))) dX11_comes_16 ?_
    refine cV_i0 S0 hG hA h hl.1 kw_RX11_76 kdV_X11_finds (c_X11_finds (k := 0) (by decide) (by decide)) ⟨rfl, rfl, by decide, by decide, Nat.le_refl _, Nat.le_refl _⟩ rfl 11 0 rfl rfl rfl (Nat.le_of_ble_eq_true rfl) dX11_comes_18 (fun _ => rfl) (fun r u H locs hq h => ?_)
    obtain rfl := hq
    exact hret _ (_, _, _, _) _ _ _ _ (Or.inr ⟨by first | exact fun q => b2 q.1 | exact fun q => b9 q.2, rfl, rfl⟩) h dX11_comes_21
set_option maxHeartbeats 4000000 in
set_option maxRecDepth 100000 in
theorem c_X11_plays {x : Int32} (hI : Inv f) (h9 : f 0 ≤ 99999) : Ki G l yX11_plays cX11_plays 4 (some .int) (RM 9 183) [.ref (a 0), .int x] (wM G a f g o d st du tb bi si nu mo kp it tn fr to vl wr) (fun u : (Nat → Nat) × (Nat → Nat) × (Nat → Nat) × Nat => wM G a f g o u.2.1 u.1 u.2.2.1 tb bi si nu mo kp u.2.2.2 tn fr to vl wr) (fun r u => P_plays f st x r u.1) := by
  refine Ki.of (by decide) (Nat.le_of_ble_eq_true rfl) ?_
  intro p e s m args below meth c A Q ls hx hb S0 hG hA h hret hl
  have S0 : CF p m c cX11_plays 4 s args RX11 := S0
  have hl : lv_has ls 4 [(0, .ref (a 0)), (1, .int x)] := hl
  have h1 := hI.2.1
  refine lv_aload_n hx hb dX11_plays_0 rfl (lv_at hl 0 rfl) ?_
  refine lv_iload_n hx hb dX11_plays_1 rfl (lv_at hl 1 rfl) ?_
  refine cV_i0 S0 hG hA h hl.1 kw_RX11_123 kdV_X11_isPerson (c_X11_isPerson (by omega)) ⟨rfl, rfl, by decide, by decide, Nat.le_refl _, Nat.le_refl _⟩ rfl 11 0 rfl rfl rfl (Nat.le_of_ble_eq_true rfl) dX11_plays_2 (fun _ => rfl) (fun r u H locs hq h => ?_)
  rcases hq with ⟨rfl, b2⟩ | ⟨rfl, b2⟩
  ·
    obtain ⟨xn, rfl, xh, xq⟩ := inR_nat (x := x) ⟨Int.le_trans (by decide) b2.1, b2.2⟩
    have xr := (inR_n xq).mp b2
    refine n_zne hx hb (by decide) (tgt := 15) dX11_plays_5 (by decide) (fun _ => ?_) (fun q => absurd q (by decide))
    refine lv_aload_n hx hb dX11_plays_15 rfl (lv_at hl 0 rfl) ?_
    refine cV_v0 S0 hG hA h hl.1 kw_RX11_163 kdV_X11_laysAside (c_X11_laysAside) ⟨rfl, rfl, by decide, by decide, Nat.le_refl _, Nat.le_refl _⟩ rfl 11 0 rfl rfl rfl (Nat.le_of_ble_eq_true rfl) dX11_plays_16 (fun _ => rfl) (fun u H locs hq h => ?_)
    refine lv_aload_n hx hb dX11_plays_19 rfl (lv_at hl 0 rfl) ?_
    refine lv_iload_n hx hb dX11_plays_20 rfl (lv_at hl 1 rfl) ?_
    refine lv_iconst (v := nI 3) hx hb dX11_plays_21 (by decide) ?_
    refine cV_i0 S0 hG hA h hl.1 kw_RX11_59 kdV_X11_its (c_X11_its (by omega) (by omega)) ⟨rfl, rfl, by decide, by decide, Nat.le_refl _, Nat.le_refl _⟩ rfl 11 0 rfl rfl rfl (Nat.le_of_ble_eq_true rfl) dX11_plays_22 (fun _ => rfl) (fun r u H locs hq h => ?_)
    obtain rfl := hq
    refine lv_istore_n hx hb dX11_plays_25 rfl hl (by decide) rfl (fun ls hl => ?_)
    refine lv_iconst (v := nI 0) hx hb dX11_plays_26 (by decide) ?_
    refine lv_istore_n hx hb dX11_plays_27 rfl hl (by decide) rfl (fun ls hl => ?_)
    have lp28 : ∀ (kf : Nat) (i : Nat) (d2 : Nat → Nat) (t1 : Nat) (H : Heap) (locs : List Loc) (ls : Array Slot) (hi : i ≤ 301) (hn : ∀ j, j < i → ¬ its (goF f j) xn 3 ≠ its f xn 3), 301 - i < kf → WX G A s H locs (wM G a (goF f i) g o f st d2 tb bi si nu mo kp t1 tn fr to vl wr) → lv_has ls 4 [(0, .ref (a 0)), (1, .int (nI xn)), (2, .int (nI (its f xn 3))), (3, .int (nI i))] → W p l e (RM 9 183) s m args below meth c H locs 0 0 Q (F0 m 28 ls []) := by
      intro kf
      induction kf with
      | zero => intro i d2 t1 H locs ls hi hn hm; exact absurd hm (Nat.not_lt_zero _)
      | succ kf ih28 =>
        intro i d2 t1 H locs ls hi hn hm h hl
        have hI9 := goF_inv hI i (by omega)
        have g9 := goF_0 f i
        refine lv_iload_n hx hb dX11_plays_28 rfl (lv_at hl 3 rfl) ?_
        refine lv_sipush (v := nI 300) hx hb dX11_plays_29 (by decide) ?_
        refine n_cgt hx hb (by omega) (by omega) (tgt := 55) dX11_plays_32 (by decide) (fun c32 => ?_) (fun c32 => ?_)
        ·
          refine lv_aload_n hx hb dX11_plays_55 rfl (lv_at hl 0 rfl) ?_
          refine lv_iload_n hx hb dX11_plays_56 rfl (lv_at hl 3 rfl) ?_
          refine cV_i0 S0 hG hA h hl.1 kw_RX11_176 kdV_X11_toldAt (c_X11_toldAt (by omega)) ⟨rfl, rfl, by decide, by decide, Nat.le_refl _, Nat.le_refl _⟩ rfl 11 0 rfl rfl rfl (Nat.le_of_ble_eq_true rfl) dX11_plays_57 (fun _ => rfl) (fun r u H locs hq h => ?_)
          exact hret _ (u, _, _, _) _ _ _ _ (Or.inl ⟨b2, by simp only [nt_nI xq]; exact ⟨i, ⟨by omega, hn, fun q => absurd q (by omega)⟩, hq⟩⟩) h dX11_plays_60
        ·
          refine lv_aload_n hx hb dX11_plays_35 rfl (lv_at hl 0 rfl) ?_
          refine lv_iload_n hx hb dX11_plays_36 rfl (lv_at hl 1 rfl) ?_
          refine lv_iconst (v := nI 3) hx hb dX11_plays_37 (by decide) ?_
          refine cV_i0 S0 hG hA h hl.1 kw_RX11_59 kdV_X11_its (c_X11_its (by omega) (by omega)) ⟨rfl, rfl, by decide, by decide, Nat.le_refl _, Nat.le_refl _⟩ rfl 11 0 rfl rfl rfl (Nat.le_of_ble_eq_true rfl) dX11_plays_38 (fun _ => rfl) (fun r u H locs hq h => ?_)
          obtain rfl := hq
          refine lv_iload_n hx hb dX11_plays_41 rfl (lv_at hl 2 rfl) ?_
          have n5 := hI9.2.2.2.2 xn (by omega)
          have n6 := hI.2.2.2.2 xn (by omega)
          refine n_cne hx hb (by omega) (by omega) (tgt := 55) dX11_plays_42 (by decide) (fun c42 => ?_) (fun c42 => ?_)
          ·
            refine lv_aload_n hx hb dX11_plays_55 rfl (lv_at hl 0 rfl) ?_
            refine lv_iload_n hx hb dX11_plays_56 rfl (lv_at hl 3 rfl) ?_
            refine cV_i0 S0 hG hA h hl.1 kw_RX11_176 kdV_X11_toldAt (c_X11_toldAt (by omega)) ⟨rfl, rfl, by decide, by decide, Nat.le_refl _, Nat.le_refl _⟩ rfl 11 0 rfl rfl rfl (Nat.le_of_ble_eq_true rfl) dX11_plays_57 (fun _ => rfl) (fun r u H locs hq h => ?_)
            exact hret _ (u, _, _, _) _ _ _ _ (Or.inl ⟨b2, by simp only [nt_nI xq]; exact ⟨i, ⟨by omega, hn, fun _ => c42⟩, hq⟩⟩) h dX11_plays_60
          ·
            refine lv_aload_n hx hb dX11_plays_45 rfl (lv_at hl 0 rfl) ?_
            refine cV_v0 S0 hG hA h hl.1 kw_RX11_151 kdV_X11_minute (c_X11_minute hI9 (by omega)) ⟨rfl, rfl, by decide, by decide, Nat.le_refl _, Nat.le_refl _⟩ rfl 11 0 rfl rfl rfl (Nat.le_of_ble_eq_true rfl) dX11_plays_46 (fun _ => rfl) (fun u H locs hq h => ?_)
            have h : WX G A s _ _ (wM G a (goF f (i + 1)) g o f st u.1 tb bi si nu mo kp u.2 tn fr to vl wr) := h
            obtain ⟨u1, u2⟩ := u
            obtain rfl : u2 = _ := hq
            refine lv_iinc hx hb dX11_plays_49 hl (k := 3) rfl (inc_1 _) (by decide) rfl (fun ls hl => ?_)
            refine lv_goto (tgt := 28) hx hb dX11_plays_52 (by decide) ?_
            exact ih28 (i + 1) _ _ _ _ _ (by omega) (lt_s hn (fun z => z c42)) (by omega) h (lv_sub hl [1, 2, 3, 0] rfl)
    exact lp28 _ 0 _ _ _ _ _ (by omega) (fun j q => absurd q (Nat.not_lt_zero _)) (Nat.lt_succ_self _) h (lv_sub hl [2, 3, 1, 0] rfl)
  ·
    refine n_zne hx hb (by decide) (tgt := 15) dX11_plays_5 (by decide) (fun q => absurd q (by decide)) (fun _ => ?_)
    refine lv_aload_n hx hb dX11_plays_8 rfl (lv_at hl 0 rfl) ?_
    refine lv_ldc (v := -1000000001) hx hb S0.2.2.2.1 (S0.2.2.2.2 _ (rin6 _ (List.mem_of_getElem? (i := 21) rfl))) dX11_plays_9 ?_
    refine cV_i0 S0 hG hA h hl.1 kw_RX11_76 kdV_X11_finds (c_X11_finds (k := 0) (by decide) (by decide)) ⟨rfl, rfl, by decide, by decide, Nat.le_refl _, Nat.le_refl _⟩ rfl 11 0 rfl rfl rfl (Nat.le_of_ble_eq_true rfl) dX11_plays_11 (fun _ => rfl) (fun r u H locs hq h => ?_)
    obtain rfl := hq
    exact hret _ (_, _, _, _) _ _ _ _ (Or.inr ⟨b2, rfl, rfl⟩) h dX11_plays_14
set_option maxHeartbeats 4000000 in
set_option maxRecDepth 100000 in
theorem c_X11_meet {x y : Int32} (hI : Inv f) (h9 : f 0 ≤ 99999) : Ki G l yX11_meet cX11_meet 4 (some .int) (RM 9 183) [.ref (a 0), .int x, .int y] (wM G a f g o d st du tb bi si nu mo kp it tn fr to vl wr) (fun u : (Nat → Nat) × (Nat → Nat) × (Nat → Nat) × Nat => wM G a f g o u.2.1 u.1 u.2.2.1 tb bi si nu mo kp u.2.2.2 tn fr to vl wr) (fun r u => P_meet f st x y r u.1) := by
  refine Ki.of (by decide) (Nat.le_of_ble_eq_true rfl) ?_
  intro p e s m args below meth c A Q ls hx hb S0 hG hA h hret hl
  have S0 : CF p m c cX11_meet 4 s args RX11 := S0
  have hl : lv_has ls 4 [(0, .ref (a 0)), (1, .int x), (2, .int y)] := hl
  have h1 := hI.2.1
  refine lv_aload_n hx hb dX11_meet_0 rfl (lv_at hl 0 rfl) ?_
  refine lv_iload_n hx hb dX11_meet_1 rfl (lv_at hl 1 rfl) ?_
  refine cV_i0 S0 hG hA h hl.1 kw_RX11_123 kdV_X11_isPerson (c_X11_isPerson (by omega)) ⟨rfl, rfl, by decide, by decide, Nat.le_refl _, Nat.le_refl _⟩ rfl 11 0 rfl rfl rfl (Nat.le_of_ble_eq_true rfl) dX11_meet_2 (fun _ => rfl) (fun r u H locs hq h => ?_)
  rcases hq with ⟨rfl, b2⟩ | ⟨rfl, b2⟩
  ·
    obtain ⟨xn, rfl, xh, xq⟩ := inR_nat (x := x) ⟨Int.le_trans (by decide) b2.1, b2.2⟩
    have xr := (inR_n xq).mp b2
    refine n_zeq hx hb (by decide) (tgt := 21) dX11_meet_5 (by decide) (fun q => absurd q (by decide)) (fun _ => ?_)
    refine lv_aload_n hx hb dX11_meet_8 rfl (lv_at hl 0 rfl) ?_
    refine lv_iload_n hx hb dX11_meet_9 rfl (lv_at hl 2 rfl) ?_
    refine cV_i0 S0 hG hA h hl.1 kw_RX11_123 kdV_X11_isPerson (c_X11_isPerson (by omega)) ⟨rfl, rfl, by decide, by decide, Nat.le_refl _, Nat.le_refl _⟩ rfl 11 0 rfl rfl rfl (Nat.le_of_ble_eq_true rfl) dX11_meet_10 (fun _ => rfl) (fun r u H locs hq h => ?_)
    rcases hq with ⟨rfl, b10⟩ | ⟨rfl, b10⟩
    ·
      obtain ⟨yn, rfl, yh, yq⟩ := inR_nat (x := y) ⟨Int.le_trans (by decide) b10.1, b10.2⟩
      have yr := (inR_n yq).mp b10
      refine n_zeq hx hb (by decide) (tgt := 21) dX11_meet_13 (by decide) (fun q => absurd q (by decide)) (fun _ => ?_)
      refine lv_iload_n hx hb dX11_meet_16 rfl (lv_at hl 1 rfl) ?_
      refine lv_iload_n hx hb dX11_meet_17 rfl (lv_at hl 2 rfl) ?_
      refine n_cne hx hb (by omega) (by omega) (tgt := 28) dX11_meet_18 (by decide) (fun c18 => ?_) (fun c18 => ?_)
      ·
        refine lv_aload_n hx hb dX11_meet_28 rfl (lv_at hl 0 rfl) ?_
        refine cV_v0 S0 hG hA h hl.1 kw_RX11_163 kdV_X11_laysAside (c_X11_laysAside) ⟨rfl, rfl, by decide, by decide, Nat.le_refl _, Nat.le_refl _⟩ rfl 11 0 rfl rfl rfl (Nat.le_of_ble_eq_true rfl) dX11_meet_29 (fun _ => rfl) (fun u H locs hq h => ?_)
        refine lv_iconst (v := nI 0) hx hb dX11_meet_32 (by decide) ?_
        refine lv_istore_n hx hb dX11_meet_33 rfl hl (by decide) rfl (fun ls hl => ?_)
        have lp34 : ∀ (kf : Nat) (i : Nat) (d2 : Nat → Nat) (t1 : Nat) (H : Heap) (locs : List Loc) (ls : Array Slot) (hi : i ≤ 301) (hn : ∀ j, j < i → ¬ its (goF f j) xn 1 = its (goF f j) yn 1), 301 - i < kf → WX G A s H locs (wM G a (goF f i) g o f st d2 tb bi si nu mo kp t1 tn fr to vl wr) → lv_has ls 4 [(0, .ref (a 0)), (1, .int (nI xn)), (2, .int (nI yn)), (3, .int (nI i))] → W p l e (RM 9 183) s m args below meth c H locs 0 0 Q (F0 m 34 ls []) := by
          intro kf
          induction kf with
          | zero => intro i d2 t1 H locs ls hi hn hm; exact absurd hm (Nat.not_lt_zero _)
          | succ kf ih34 =>
            intro i d2 t1 H locs ls hi hn hm h hl
            have hI9 := goF_inv hI i (by omega)
            have g9 := goF_0 f i
            refine lv_iload_n hx hb dX11_meet_34 rfl (lv_at hl 3 rfl) ?_
            refine lv_sipush (v := nI 300) hx hb dX11_meet_35 (by decide) ?_
            refine n_cgt hx hb (by omega) (by omega) (tgt := 66) dX11_meet_38 (by decide) (fun c38 => ?_) (fun c38 => ?_)
            ·
              refine lv_aload_n hx hb dX11_meet_66 rfl (lv_at hl 0 rfl) ?_
              refine lv_iload_n hx hb dX11_meet_67 rfl (lv_at hl 3 rfl) ?_
              refine cV_i0 S0 hG hA h hl.1 kw_RX11_176 kdV_X11_toldAt (c_X11_toldAt (by omega)) ⟨rfl, rfl, by decide, by decide, Nat.le_refl _, Nat.le_refl _⟩ rfl 11 0 rfl rfl rfl (Nat.le_of_ble_eq_true rfl) dX11_meet_68 (fun _ => rfl) (fun r u H locs hq h => ?_)
              exact hret _ (u, _, _, _) _ _ _ _ (Or.inl ⟨⟨b2, b10, fun z => c18 ((nI_eq xq yq).mp z)⟩, by simp only [nt_nI xq, nt_nI yq]; exact ⟨i, ⟨by omega, hn, fun q => absurd q (by omega)⟩, hq⟩⟩) h dX11_meet_71
            ·
              refine lv_aload_n hx hb dX11_meet_41 rfl (lv_at hl 0 rfl) ?_
              refine lv_iload_n hx hb dX11_meet_42 rfl (lv_at hl 1 rfl) ?_
              refine lv_iconst (v := nI 1) hx hb dX11_meet_43 (by decide) ?_
              refine cV_i0 S0 hG hA h hl.1 kw_RX11_59 kdV_X11_its (c_X11_its (by omega) (by omega)) ⟨rfl, rfl, by decide, by decide, Nat.le_refl _, Nat.le_refl _⟩ rfl 11 0 rfl rfl rfl (Nat.le_of_ble_eq_true rfl) dX11_meet_44 (fun _ => rfl) (fun r u H locs hq h => ?_)
              obtain rfl := hq
              refine lv_aload_n hx hb dX11_meet_47 rfl (lv_at hl 0 rfl) ?_
              refine lv_iload_n hx hb dX11_meet_48 rfl (lv_at hl 2 rfl) ?_
              refine lv_iconst (v := nI 1) hx hb dX11_meet_49 (by decide) ?_
              refine cV_i0 S0 hG hA h hl.1 kw_RX11_59 kdV_X11_its (c_X11_its (by omega) (by omega)) ⟨rfl, rfl, by decide, by decide, Nat.le_refl _, Nat.le_refl _⟩ rfl 11 0 rfl rfl rfl (Nat.le_of_ble_eq_true rfl) dX11_meet_50 (fun _ => rfl) (fun r u H locs hq h => ?_)
              obtain rfl := hq
              have n5 := hI9.2.2.2.2 xn (by omega)
              have n6 := hI9.2.2.2.2 yn (by omega)
              refine n_ceq hx hb (by omega) (by omega) (tgt := 66) dX11_meet_53 (by decide) (fun c53 => ?_) (fun c53 => ?_)
              ·
                refine lv_aload_n hx hb dX11_meet_66 rfl (lv_at hl 0 rfl) ?_
                refine lv_iload_n hx hb dX11_meet_67 rfl (lv_at hl 3 rfl) ?_
                refine cV_i0 S0 hG hA h hl.1 kw_RX11_176 kdV_X11_toldAt (c_X11_toldAt (by omega)) ⟨rfl, rfl, by decide, by decide, Nat.le_refl _, Nat.le_refl _⟩ rfl 11 0 rfl rfl rfl (Nat.le_of_ble_eq_true rfl) dX11_meet_68 (fun _ => rfl) (fun r u H locs hq h => ?_)
                exact hret _ (u, _, _, _) _ _ _ _ (Or.inl ⟨⟨b2, b10, fun z => c18 ((nI_eq xq yq).mp z)⟩, by simp only [nt_nI xq, nt_nI yq]; exact ⟨i, ⟨by omega, hn, fun _ => c53⟩, hq⟩⟩) h dX11_meet_71
              ·
                refine lv_aload_n hx hb dX11_meet_56 rfl (lv_at hl 0 rfl) ?_
                refine cV_v0 S0 hG hA h hl.1 kw_RX11_151 kdV_X11_minute (c_X11_minute hI9 (by omega)) ⟨rfl, rfl, by decide, by decide, Nat.le_refl _, Nat.le_refl _⟩ rfl 11 0 rfl rfl rfl (Nat.le_of_ble_eq_true rfl) dX11_meet_57 (fun _ => rfl) (fun u H locs hq h => ?_)
                have h : WX G A s _ _ (wM G a (goF f (i + 1)) g o f st u.1 tb bi si nu mo kp u.2 tn fr to vl wr) := h
                obtain ⟨u1, u2⟩ := u
                obtain rfl : u2 = _ := hq
                refine lv_iinc hx hb dX11_meet_60 hl (k := 3) rfl (inc_1 _) (by decide) rfl (fun ls hl => ?_)
                refine lv_goto (tgt := 34) hx hb dX11_meet_63 (by decide) ?_
                exact ih34 (i + 1) _ _ _ _ _ (by omega) (lt_s hn c53) (by omega) h (lv_sub hl [1, 2, 3, 0] rfl)
        exact lp34 _ 0 _ _ _ _ _ (by omega) (fun j q => absurd q (Nat.not_lt_zero _)) (Nat.lt_succ_self _) h (lv_sub hl [1, 2, 3, 0] rfl)
      ·
        refine lv_aload_n hx hb dX11_meet_21 rfl (lv_at hl 0 rfl) ?_
        refine lv_ldc (v := -1000000001) hx hb S0.2.2.2.1 (S0.2.2.2.2 _ (rin6 _ (List.mem_of_getElem? (i := 21) rfl))) dX11_meet_22 ?_
        refine cV_i0 S0 hG hA h hl.1 kw_RX11_76 kdV_X11_finds (c_X11_finds (k := 0) (by decide) (by decide)) ⟨rfl, rfl, by decide, by decide, Nat.le_refl _, Nat.le_refl _⟩ rfl 11 0 rfl rfl rfl (Nat.le_of_ble_eq_true rfl) dX11_meet_24 (fun _ => rfl) (fun r u H locs hq h => ?_)
        obtain rfl := hq
        exact hret _ (_, _, _, _) _ _ _ _ (Or.inr ⟨by first | exact fun q => b2 q.1 | exact fun q => b10 q.2.1 | exact fun q => q.2.2 (nI_cong c18), rfl, rfl⟩) h dX11_meet_27
    ·
      refine n_zeq hx hb (by decide) (tgt := 21) dX11_meet_13 (by decide) (fun _ => ?_) (fun q => absurd q (by decide))
      refine lv_aload_n hx hb dX11_meet_21 rfl (lv_at hl 0 rfl) ?_
      refine lv_ldc (v := -1000000001) hx hb S0.2.2.2.1 (S0.2.2.2.2 _ (rin6 _ (List.mem_of_getElem? (i := 21) rfl))) dX11_meet_22 ?_
      refine cV_i0 S0 hG hA h hl.1 kw_RX11_76 kdV_X11_finds (c_X11_finds (k := 0) (by decide) (by decide)) ⟨rfl, rfl, by decide, by decide, Nat.le_refl _, Nat.le_refl _⟩ rfl 11 0 rfl rfl rfl (Nat.le_of_ble_eq_true rfl) dX11_meet_24 (fun _ => rfl) (fun r u H locs hq h => ?_)
      obtain rfl := hq
      exact hret _ (_, _, _, _) _ _ _ _ (Or.inr ⟨by first | exact fun q => b2 q.1 | exact fun q => b10 q.2.1 | exact fun q => q.2.2 (nI_cong c18), rfl, rfl⟩) h dX11_meet_27
  ·
    refine n_zeq hx hb (by decide) (tgt := 21) dX11_meet_5 (by decide) (fun _ => ?_) (fun q => absurd q (by decide))
    refine lv_aload_n hx hb dX11_meet_21 rfl (lv_at hl 0 rfl) ?_
    refine lv_ldc (v := -1000000001) hx hb S0.2.2.2.1 (S0.2.2.2.2 _ (rin6 _ (List.mem_of_getElem? (i := 21) rfl))) dX11_meet_22 ?_
    refine cV_i0 S0 hG hA h hl.1 kw_RX11_76 kdV_X11_finds (c_X11_finds (k := 0) (by decide) (by decide)) ⟨rfl, rfl, by decide, by decide, Nat.le_refl _, Nat.le_refl _⟩ rfl 11 0 rfl rfl rfl (Nat.le_of_ble_eq_true rfl) dX11_meet_24 (fun _ => rfl) (fun r u H locs hq h => ?_)
    obtain rfl := hq
    exact hret _ (_, _, _, _) _ _ _ _ (Or.inr ⟨by first | exact fun q => b2 q.1 | exact fun q => b10 q.2.1 | exact fun q => q.2.2 (nI_cong c18), rfl, rfl⟩) h dX11_meet_27
theorem kw_RX11_182 : GoodIn wsL_law (va_wsS RX11 182 yX11_isSoon (WS yX11_isSoon cX11_isSoon 1 (some .boolean))) := gS (rin25 _ (List.mem_of_getElem? (i := 21) rfl)) (rin25 _ (List.mem_of_getElem? (i := 22) rfl)) (rin1 _ (List.mem_of_getElem? (i := 5) rfl)) (rin25 _ (List.mem_of_getElem? (i := 23) rfl))
theorem kw_RX11_185 : GoodIn wsL_law (wsV RX11 185 RX11 yX11_mostBy (WS yX11_mostBy cX11_mostBy 11 (some .int))) := gV (rin26 _ (List.mem_of_getElem? (i := 1) rfl)) (rin26 _ (List.mem_of_getElem? (i := 2) rfl)) (rin26 _ (List.mem_of_getElem? (i := 3) rfl)) (rin1 _ (List.mem_of_getElem? (i := 5) rfl)) (rin26 _ (List.mem_of_getElem? (i := 4) rfl))
theorem kdS_X11_isSoon : yX11_isSoon.cls ≠ "java/lang/invoke/MethodHandle" ∧ yX11_isSoon.cls ≠ "java/lang/invoke/VarHandle" ∧ (parseMethodDescriptor yX11_isSoon.desc).map (fun d => d.parameters.length) = some 1 := ⟨by decide +kernel, by decide +kernel, by decide +kernel⟩
theorem kdV_X11_mostBy : yX11_mostBy.cls = RX11 ∧ yX11_mostBy.cls ≠ "java/lang/invoke/MethodHandle" ∧ yX11_mostBy.cls ≠ "java/lang/invoke/VarHandle" ∧ (parseMethodDescriptor yX11_mostBy.desc).map (fun d => d.parameters.length) = some 5 := ⟨rfl, by decide +kernel, by decide +kernel, by decide +kernel⟩
set_option maxHeartbeats 4000000 in
set_option maxRecDepth 100000 in
theorem c_X11_begin {x y : Int32} (hI : Inv f) (h9 : f 0 ≤ 99999) : Ki G l yX11_begin cX11_begin 3 (some .int) (RM 12 257) [.ref (a 0), .int x, .int y] (wM G a f g o d st du tb bi si nu mo kp it tn fr to vl wr) (fun u : (Nat → Nat) × (Nat → Nat) × (Nat → Nat) × Nat => wM G a f g o u.2.1 u.1 u.2.2.1 tb bi si nu mo kp u.2.2.2 tn fr to vl wr) (fun r u => P_begin f st x y r u.1) := by
  refine Ki.of (by decide) (Nat.le_of_ble_eq_true rfl) ?_
  intro p e s m args below meth c A Q ls hx hb S0 hG hA h hret hl
  have S0 : CF p m c cX11_begin 3 s args RX11 := S0
  have hl : lv_has ls 3 [(0, .ref (a 0)), (1, .int x), (2, .int y)] := hl
  have h1 := hI.2.1
  refine lv_aload_n hx hb dX11_begin_0 rfl (lv_at hl 0 rfl) ?_
  refine lv_iload_n hx hb dX11_begin_1 rfl (lv_at hl 1 rfl) ?_
  refine cV_i0 S0 hG hA h hl.1 kw_RX11_123 kdV_X11_isPerson (c_X11_isPerson (by omega)) ⟨rfl, rfl, by decide, by decide, Nat.le_refl _, Nat.le_refl _⟩ rfl 11 0 rfl rfl rfl (Nat.le_of_ble_eq_true rfl) dX11_begin_2 (fun _ => rfl) (fun r u H locs hq h => ?_)
  rcases hq with ⟨rfl, b2⟩ | ⟨rfl, b2⟩
  ·
    obtain ⟨xn, rfl, xh, xq⟩ := inR_nat (x := x) ⟨Int.le_trans (by decide) b2.1, b2.2⟩
    have xr := (inR_n xq).mp b2
    refine n_zeq hx hb (by decide) (tgt := 36) dX11_begin_5 (by decide) (fun q => absurd q (by decide)) (fun _ => ?_)
    refine lv_iload_n hx hb dX11_begin_8 rfl (lv_at hl 2 rfl) ?_
    refine cS_iE S0 hG hA h hl.1 kw_RX11_182 kdS_X11_isSoon (c_X11_isSoon) ⟨rfl, rfl, by decide, by decide, Nat.le_refl _, Nat.le_refl _⟩ rfl rfl (Nat.le_of_ble_eq_true rfl) dX11_begin_9 (fun r u H locs hq h => ?_)
    rcases hq with ⟨rfl, b9⟩ | ⟨rfl, b9⟩
    ·
      obtain ⟨yn, rfl, yh, yq⟩ := inR_nat (x := y) ⟨Int.le_trans (by decide) b9.1, b9.2⟩
      have yr := (inR_n yq).mp b9
      refine n_zeq hx hb (by decide) (tgt := 36) dX11_begin_12 (by decide) (fun q => absurd q (by decide)) (fun _ => ?_)
      refine lv_aload_n hx hb dX11_begin_15 rfl (lv_at hl 0 rfl) ?_
      refine lv_iload_n hx hb dX11_begin_16 rfl (lv_at hl 1 rfl) ?_
      refine lv_iconst (v := nI 1) hx hb dX11_begin_17 (by decide) ?_
      refine cS_iE S0 hG hA h hl.1 kw_RX11_45 kdS_X11_spot (c_X11_spot) ⟨rfl, rfl, by decide, by decide, Nat.le_refl _, Nat.le_refl _⟩ rfl rfl (Nat.le_of_ble_eq_true rfl) dX11_begin_18 (fun r u H locs hq h => ?_)
      obtain rfl := hq
      refine lv_bipush (v := nI 11) hx hb dX11_begin_21 (by decide) ?_
      refine lv_iload_n hx hb dX11_begin_23 rfl (lv_at hl 1 rfl) ?_
      refine lv_iconst (v := nI 3) hx hb dX11_begin_24 (by decide) ?_
      refine cS_iE S0 hG hA h hl.1 kw_RX11_45 kdS_X11_spot (c_X11_spot) ⟨rfl, rfl, by decide, by decide, Nat.le_refl _, Nat.le_refl _⟩ rfl rfl (Nat.le_of_ble_eq_true rfl) dX11_begin_25 (fun r u H locs hq h => ?_)
      obtain rfl := hq
      refine lv_iconst (v := nI 1) hx hb dX11_begin_28 (by decide) ?_
      refine lv_iload_n hx hb dX11_begin_29 rfl (lv_at hl 2 rfl) ?_
      refine cV_i0 S0 hG hA h hl.1 kw_RX11_185 kdV_X11_mostBy (c_X11_mostBy (by omega) (by decide) (Or.inr ⟨_, rfl, by omega⟩) (fun v hv => ⟨Inv_set hI (by omega) (by simpa [bnd] using hv), by rw [va_up_n _ _ (by omega)]; omega⟩) (big_w (by omega) (Nat.lt_of_le_of_lt (its_goF_le (p := xn) (w := 3) (Inv_set hI (by omega) (by decide)) (by rw [va_up_n _ _ (by omega)]; omega) (by omega) (by omega)) (by decide)))) ⟨rfl, rfl, by decide, by decide, Nat.le_refl _, Nat.le_refl _⟩ rfl 11 0 rfl rfl rfl (Nat.le_of_ble_eq_true rfl) dX11_begin_30 (fun _ => rfl) (fun r u H locs hq h => ?_)
      obtain ⟨u1, u2, u3⟩ := u
      refine lv_goto (tgt := 42) hx hb dX11_begin_33 (by decide) ?_
      exact hret _ (st, _, _, _) _ _ _ _ (Or.inl ⟨⟨b2, b9⟩, by rw [hq, nt_nI xq, nt_nI yq]; exact nI_cong (am_cong (fun i _ => one_mulI _)), rfl⟩) h dX11_begin_42
    ·
      refine n_zeq hx hb (by decide) (tgt := 36) dX11_begin_12 (by decide) (fun _ => ?_) (fun q => absurd q (by decide))
      refine lv_aload_n hx hb dX11_begin_36 rfl (lv_at hl 0 rfl) ?_
      refine lv_ldc (v := -1000000001) hx hb S0.2.2.2.1 (S0.2.2.2.2 _ (rin6 _ (List.mem_of_getElem? (i := 21) rfl))) dX11_begin_37 ?_
      refine cV_i0 S0 hG hA h hl.1 kw_RX11_76 kdV_X11_finds (c_X11_finds (k := 0) (by decide) (by decide)) ⟨rfl, rfl, by decide, by decide, Nat.le_refl _, Nat.le_refl _⟩ rfl 11 0 rfl rfl rfl (Nat.le_of_ble_eq_true rfl) dX11_begin_39 (fun _ => rfl) (fun r u H locs hq h => ?_)
      obtain rfl := hq
      exact hret _ (_, _, _, _) _ _ _ _ (Or.inr ⟨by first | exact fun q => b2 q.1 | exact fun q => b9 q.2, rfl, rfl⟩) h dX11_begin_42
  ·
    refine n_zeq hx hb (by decide) (tgt := 36) dX11_begin_5 (by decide) (fun _ => ?_) (fun q => absurd q (by decide))
    refine lv_aload_n hx hb dX11_begin_36 rfl (lv_at hl 0 rfl) ?_
    refine lv_ldc (v := -1000000001) hx hb S0.2.2.2.1 (S0.2.2.2.2 _ (rin6 _ (List.mem_of_getElem? (i := 21) rfl))) dX11_begin_37 ?_
    refine cV_i0 S0 hG hA h hl.1 kw_RX11_76 kdV_X11_finds (c_X11_finds (k := 0) (by decide) (by decide)) ⟨rfl, rfl, by decide, by decide, Nat.le_refl _, Nat.le_refl _⟩ rfl 11 0 rfl rfl rfl (Nat.le_of_ble_eq_true rfl) dX11_begin_39 (fun _ => rfl) (fun r u H locs hq h => ?_)
    obtain rfl := hq
    exact hret _ (_, _, _, _) _ _ _ _ (Or.inr ⟨by first | exact fun q => b2 q.1 | exact fun q => b9 q.2, rfl, rfl⟩) h dX11_begin_42
set_option maxHeartbeats 4000000 in
set_option maxRecDepth 100000 in
theorem c_X11_kind {x y : Int32} (hI : Inv f) (h9 : f 0 ≤ 99999) : Ki G l yX11_kind cX11_kind 3 (some .int) (RM 12 257) [.ref (a 0), .int x, .int y] (wM G a f g o d st du tb bi si nu mo kp it tn fr to vl wr) (fun u : (Nat → Nat) × (Nat → Nat) × (Nat → Nat) × Nat => wM G a f g o u.2.1 u.1 u.2.2.1 tb bi si nu mo kp u.2.2.2 tn fr to vl wr) (fun r u => P_kind f st x y r u.1) := by
  refine Ki.of (by decide) (Nat.le_of_ble_eq_true rfl) ?_
  intro p e s m args below meth c A Q ls hx hb S0 hG hA h hret hl
  have S0 : CF p m c cX11_kind 3 s args RX11 := S0
  have hl : lv_has ls 3 [(0, .ref (a 0)), (1, .int x), (2, .int y)] := hl
  have h1 := hI.2.1
  refine lv_aload_n hx hb dX11_kind_0 rfl (lv_at hl 0 rfl) ?_
  refine lv_iload_n hx hb dX11_kind_1 rfl (lv_at hl 1 rfl) ?_
  refine cV_i0 S0 hG hA h hl.1 kw_RX11_123 kdV_X11_isPerson (c_X11_isPerson (by omega)) ⟨rfl, rfl, by decide, by decide, Nat.le_refl _, Nat.le_refl _⟩ rfl 11 0 rfl rfl rfl (Nat.le_of_ble_eq_true rfl) dX11_kind_2 (fun _ => rfl) (fun r u H locs hq h => ?_)
  rcases hq with ⟨rfl, b2⟩ | ⟨rfl, b2⟩
  ·
    obtain ⟨xn, rfl, xh, xq⟩ := inR_nat (x := x) ⟨Int.le_trans (by decide) b2.1, b2.2⟩
    have xr := (inR_n xq).mp b2
    refine n_zeq hx hb (by decide) (tgt := 35) dX11_kind_5 (by decide) (fun q => absurd q (by decide)) (fun _ => ?_)
    refine lv_iload_n hx hb dX11_kind_8 rfl (lv_at hl 2 rfl) ?_
    refine cS_iE S0 hG hA h hl.1 kw_RX11_182 kdS_X11_isSoon (c_X11_isSoon) ⟨rfl, rfl, by decide, by decide, Nat.le_refl _, Nat.le_refl _⟩ rfl rfl (Nat.le_of_ble_eq_true rfl) dX11_kind_9 (fun r u H locs hq h => ?_)
    rcases hq with ⟨rfl, b9⟩ | ⟨rfl, b9⟩
    ·
      obtain ⟨yn, rfl, yh, yq⟩ := inR_nat (x := y) ⟨Int.le_trans (by decide) b9.1, b9.2⟩
      have yr := (inR_n yq).mp b9
      refine n_zeq hx hb (by decide) (tgt := 35) dX11_kind_12 (by decide) (fun q => absurd q (by decide)) (fun _ => ?_)
      refine lv_aload_n hx hb dX11_kind_15 rfl (lv_at hl 0 rfl) ?_
      refine lv_iload_n hx hb dX11_kind_16 rfl (lv_at hl 1 rfl) ?_
      refine lv_iconst (v := nI 0) hx hb dX11_kind_17 (by decide) ?_
      refine cS_iE S0 hG hA h hl.1 kw_RX11_45 kdS_X11_spot (c_X11_spot) ⟨rfl, rfl, by decide, by decide, Nat.le_refl _, Nat.le_refl _⟩ rfl rfl (Nat.le_of_ble_eq_true rfl) dX11_kind_18 (fun r u H locs hq h => ?_)
      obtain rfl := hq
      refine lv_iconst (v := nI 5) hx hb dX11_kind_21 (by decide) ?_
      refine lv_iload_n hx hb dX11_kind_22 rfl (lv_at hl 1 rfl) ?_
      refine lv_iconst (v := nI 3) hx hb dX11_kind_23 (by decide) ?_
      refine cS_iE S0 hG hA h hl.1 kw_RX11_45 kdS_X11_spot (c_X11_spot) ⟨rfl, rfl, by decide, by decide, Nat.le_refl _, Nat.le_refl _⟩ rfl rfl (Nat.le_of_ble_eq_true rfl) dX11_kind_24 (fun r u H locs hq h => ?_)
      obtain rfl := hq
      refine lv_iconst (v := nI 1) hx hb dX11_kind_27 (by decide) ?_
      refine lv_iload_n hx hb dX11_kind_28 rfl (lv_at hl 2 rfl) ?_
      refine cV_i0 S0 hG hA h hl.1 kw_RX11_185 kdV_X11_mostBy (c_X11_mostBy (by omega) (by decide) (Or.inr ⟨_, rfl, by omega⟩) (fun v hv => ⟨Inv_set hI (by omega) (by simpa [bnd] using hv), by rw [va_up_n _ _ (by omega)]; omega⟩) (big_w (by omega) (Nat.lt_of_le_of_lt (its_goF_le (p := xn) (w := 3) (Inv_set hI (by omega) (by decide)) (by rw [va_up_n _ _ (by omega)]; omega) (by omega) (by omega)) (by decide)))) ⟨rfl, rfl, by decide, by decide, Nat.le_refl _, Nat.le_refl _⟩ rfl 11 0 rfl rfl rfl (Nat.le_of_ble_eq_true rfl) dX11_kind_29 (fun _ => rfl) (fun r u H locs hq h => ?_)
      obtain ⟨u1, u2, u3⟩ := u
      refine lv_goto (tgt := 41) hx hb dX11_kind_32 (by decide) ?_
      exact hret _ (st, _, _, _) _ _ _ _ (Or.inl ⟨⟨b2, b9⟩, by rw [hq, nt_nI xq, nt_nI yq]; exact nI_cong (am_cong (fun i _ => one_mulI _)), rfl⟩) h dX11_kind_41
    ·
      refine n_zeq hx hb (by decide) (tgt := 35) dX11_kind_12 (by decide) (fun _ => ?_) (fun q => absurd q (by decide))
      refine lv_aload_n hx hb dX11_kind_35 rfl (lv_at hl 0 rfl) ?_
      refine lv_ldc (v := -1000000001) hx hb S0.2.2.2.1 (S0.2.2.2.2 _ (rin6 _ (List.mem_of_getElem? (i := 21) rfl))) dX11_kind_36 ?_
      refine cV_i0 S0 hG hA h hl.1 kw_RX11_76 kdV_X11_finds (c_X11_finds (k := 0) (by decide) (by decide)) ⟨rfl, rfl, by decide, by decide, Nat.le_refl _, Nat.le_refl _⟩ rfl 11 0 rfl rfl rfl (Nat.le_of_ble_eq_true rfl) dX11_kind_38 (fun _ => rfl) (fun r u H locs hq h => ?_)
      obtain rfl := hq
      exact hret _ (_, _, _, _) _ _ _ _ (Or.inr ⟨by first | exact fun q => b2 q.1 | exact fun q => b9 q.2, rfl, rfl⟩) h dX11_kind_41
  ·
    refine n_zeq hx hb (by decide) (tgt := 35) dX11_kind_5 (by decide) (fun _ => ?_) (fun q => absurd q (by decide))
    refine lv_aload_n hx hb dX11_kind_35 rfl (lv_at hl 0 rfl) ?_
    refine lv_ldc (v := -1000000001) hx hb S0.2.2.2.1 (S0.2.2.2.2 _ (rin6 _ (List.mem_of_getElem? (i := 21) rfl))) dX11_kind_36 ?_
    refine cV_i0 S0 hG hA h hl.1 kw_RX11_76 kdV_X11_finds (c_X11_finds (k := 0) (by decide) (by decide)) ⟨rfl, rfl, by decide, by decide, Nat.le_refl _, Nat.le_refl _⟩ rfl 11 0 rfl rfl rfl (Nat.le_of_ble_eq_true rfl) dX11_kind_38 (fun _ => rfl) (fun r u H locs hq h => ?_)
    obtain rfl := hq
    exact hret _ (_, _, _, _) _ _ _ _ (Or.inr ⟨by first | exact fun q => b2 q.1 | exact fun q => b9 q.2, rfl, rfl⟩) h dX11_kind_41
set_option maxHeartbeats 4000000 in
set_option maxRecDepth 100000 in
theorem c_X11_compose {x y : Int32} (hI : Inv f) (h9 : f 0 ≤ 99999) : Ki G l yX11_compose cX11_compose 3 (some .int) (RM 12 257) [.ref (a 0), .int x, .int y] (wM G a f g o d st du tb bi si nu mo kp it tn fr to vl wr) (fun u : (Nat → Nat) × (Nat → Nat) × (Nat → Nat) × Nat => wM G a f g o u.2.1 u.1 u.2.2.1 tb bi si nu mo kp u.2.2.2 tn fr to vl wr) (fun r u => P_compose f st x y r u.1) := by
  refine Ki.of (by decide) (Nat.le_of_ble_eq_true rfl) ?_
  intro p e s m args below meth c A Q ls hx hb S0 hG hA h hret hl
  have S0 : CF p m c cX11_compose 3 s args RX11 := S0
  have hl : lv_has ls 3 [(0, .ref (a 0)), (1, .int x), (2, .int y)] := hl
  have h1 := hI.2.1
  refine lv_iload_n hx hb dX11_compose_0 rfl (lv_at hl 1 rfl) ?_
  refine cS_iE S0 hG hA h hl.1 kw_RX11_66 kdS_X11_isQuarter (c_X11_isQuarter) ⟨rfl, rfl, by decide, by decide, Nat.le_refl _, Nat.le_refl _⟩ rfl rfl (Nat.le_of_ble_eq_true rfl) dX11_compose_1 (fun r u H locs hq h => ?_)
  rcases hq with ⟨rfl, b1⟩ | ⟨rfl, b1⟩
  ·
    obtain ⟨xn, rfl, xh, xq⟩ := inR_nat (x := x) ⟨Int.le_trans (by decide) b1.1, b1.2⟩
    have xr := (inR_n xq).mp b1
    refine n_zeq hx hb (by decide) (tgt := 29) dX11_compose_4 (by decide) (fun q => absurd q (by decide)) (fun _ => ?_)
    refine lv_iload_n hx hb dX11_compose_7 rfl (lv_at hl 2 rfl) ?_
    refine cS_iE S0 hG hA h hl.1 kw_RX11_182 kdS_X11_isSoon (c_X11_isSoon) ⟨rfl, rfl, by decide, by decide, Nat.le_refl _, Nat.le_refl _⟩ rfl rfl (Nat.le_of_ble_eq_true rfl) dX11_compose_8 (fun r u H locs hq h => ?_)
    rcases hq with ⟨rfl, b8⟩ | ⟨rfl, b8⟩
    ·
      obtain ⟨yn, rfl, yh, yq⟩ := inR_nat (x := y) ⟨Int.le_trans (by decide) b8.1, b8.2⟩
      have yr := (inR_n yq).mp b8
      refine n_zeq hx hb (by decide) (tgt := 29) dX11_compose_11 (by decide) (fun q => absurd q (by decide)) (fun _ => ?_)
      refine lv_aload_n hx hb dX11_compose_14 rfl (lv_at hl 0 rfl) ?_
      refine lv_iconst (v := nI 2) hx hb dX11_compose_15 (by decide) ?_
      refine lv_iload_n hx hb dX11_compose_16 rfl (lv_at hl 1 rfl) ?_
      refine n_add hx hb dX11_compose_17 ?_
      refine lv_bipush (v := nI 11) hx hb dX11_compose_18 (by decide) ?_
      refine lv_iconst (v := -1) hx hb dX11_compose_20 (by decide) ?_
      refine lv_iconst (v := nI 1) hx hb dX11_compose_21 (by decide) ?_
      refine lv_iload_n hx hb dX11_compose_22 rfl (lv_at hl 2 rfl) ?_
      refine cV_i0 S0 hG hA h hl.1 kw_RX11_185 kdV_X11_mostBy (c_X11_mostBy (by omega) (by decide) (Or.inl rfl) (fun v hv => ⟨Inv_sc hI (by omega) hv, by rw [va_up_n _ _ (by omega)]; omega⟩) (big_h (goF_inv (Inv_sc hI (by omega) (by decide)) _ (by rw [va_up_n _ _ (by omega)]; omega)))) ⟨rfl, rfl, by decide, by decide, Nat.le_refl _, Nat.le_refl _⟩ rfl 11 0 rfl rfl rfl (Nat.le_of_ble_eq_true rfl) dX11_compose_23 (fun _ => rfl) (fun r u H locs hq h => ?_)
      obtain ⟨u1, u2, u3⟩ := u
      refine lv_goto (tgt := 35) hx hb dX11_compose_26 (by decide) ?_
      exact hret _ (st, _, _, _) _ _ _ _ (Or.inl ⟨⟨b1, b8⟩, by rw [hq, nt_nI xq, nt_nI yq]; exact nI_cong (am_cong (fun i _ => one_mulI _)), rfl⟩) h dX11_compose_35
    ·
      refine n_zeq hx hb (by decide) (tgt := 29) dX11_compose_11 (by decide) (fun _ => ?_) (fun q => absurd q (by decide))
      refine lv_aload_n hx hb dX11_compose_29 rfl (lv_at hl 0 rfl) ?_
      refine lv_ldc (v := -1000000001) hx hb S0.2.2.2.1 (S0.2.2.2.2 _ (rin6 _ (List.mem_of_getElem? (i := 21) rfl))) dX11_compose_30 ?_
      refine cV_i0 S0 hG hA h hl.1 kw_RX11_76 kdV_X11_finds (c_X11_finds (k := 0) (by decide) (by decide)) ⟨rfl, rfl, by decide, by decide, Nat.le_refl _, Nat.le_refl _⟩ rfl 11 0 rfl rfl rfl (Nat.le_of_ble_eq_true rfl) dX11_compose_32 (fun _ => rfl) (fun r u H locs hq h => ?_)
      obtain rfl := hq
      exact hret _ (_, _, _, _) _ _ _ _ (Or.inr ⟨by first | exact fun q => b1 q.1 | exact fun q => b8 q.2, rfl, rfl⟩) h dX11_compose_35
  ·
    refine n_zeq hx hb (by decide) (tgt := 29) dX11_compose_4 (by decide) (fun _ => ?_) (fun q => absurd q (by decide))
    refine lv_aload_n hx hb dX11_compose_29 rfl (lv_at hl 0 rfl) ?_
    refine lv_ldc (v := -1000000001) hx hb S0.2.2.2.1 (S0.2.2.2.2 _ (rin6 _ (List.mem_of_getElem? (i := 21) rfl))) dX11_compose_30 ?_
    refine cV_i0 S0 hG hA h hl.1 kw_RX11_76 kdV_X11_finds (c_X11_finds (k := 0) (by decide) (by decide)) ⟨rfl, rfl, by decide, by decide, Nat.le_refl _, Nat.le_refl _⟩ rfl 11 0 rfl rfl rfl (Nat.le_of_ble_eq_true rfl) dX11_compose_32 (fun _ => rfl) (fun r u H locs hq h => ?_)
    obtain rfl := hq
    exact hret _ (_, _, _, _) _ _ _ _ (Or.inr ⟨by first | exact fun q => b1 q.1 | exact fun q => b8 q.2, rfl, rfl⟩) h dX11_compose_35
set_option maxHeartbeats 4000000 in
set_option maxRecDepth 100000 in
theorem c_X11_deceive {x y : Int32} (hI : Inv f) (h9 : f 0 ≤ 99999) : Ki G l yX11_deceive cX11_deceive 3 (some .int) (RM 12 257) [.ref (a 0), .int x, .int y] (wM G a f g o d st du tb bi si nu mo kp it tn fr to vl wr) (fun u : (Nat → Nat) × (Nat → Nat) × (Nat → Nat) × Nat => wM G a f g o u.2.1 u.1 u.2.2.1 tb bi si nu mo kp u.2.2.2 tn fr to vl wr) (fun r u => P_deceive f st x y r u.1) := by
  refine Ki.of (by decide) (Nat.le_of_ble_eq_true rfl) ?_
  intro p e s m args below meth c A Q ls hx hb S0 hG hA h hret hl
  have S0 : CF p m c cX11_deceive 3 s args RX11 := S0
  have hl : lv_has ls 3 [(0, .ref (a 0)), (1, .int x), (2, .int y)] := hl
  have h1 := hI.2.1
  refine lv_iload_n hx hb dX11_deceive_0 rfl (lv_at hl 1 rfl) ?_
  refine cS_iE S0 hG hA h hl.1 kw_RX11_79 kdS_X11_isBell (c_X11_isBell) ⟨rfl, rfl, by decide, by decide, Nat.le_refl _, Nat.le_refl _⟩ rfl rfl (Nat.le_of_ble_eq_true rfl) dX11_deceive_1 (fun r u H locs hq h => ?_)
  rcases hq with ⟨rfl, b1⟩ | ⟨rfl, b1⟩
  ·
    obtain ⟨xn, rfl, xh, xq⟩ := inR_nat (x := x) ⟨Int.le_trans (by decide) b1.1, b1.2⟩
    have xr := (inR_n xq).mp b1
    refine n_zeq hx hb (by decide) (tgt := 35) dX11_deceive_4 (by decide) (fun q => absurd q (by decide)) (fun _ => ?_)
    refine lv_iload_n hx hb dX11_deceive_7 rfl (lv_at hl 2 rfl) ?_
    refine lv_i2l hx hb dX11_deceive_8 rfl ?_
    refine lv_lconst (v := 1) hx hb dX11_deceive_9 (by decide) ?_
    refine lv_ldc2 (v := 60) hx hb S0.2.2.2.1 (S0.2.2.2.2 _ (rin27 _ (List.mem_of_getElem? (i := 14) rfl))) dX11_deceive_10 ?_
    refine cS_iE S0 hG hA h hl.1 kw_RX11_49 kdS_X11_in (c_X11_in) ⟨rfl, rfl, by decide, by decide, Nat.le_refl _, Nat.le_refl _⟩ rfl rfl (Nat.le_of_ble_eq_true rfl) dX11_deceive_13 (fun r u H locs hq h => ?_)
    rcases hq with ⟨rfl, b13⟩ | ⟨rfl, b13⟩
    ·
      have b13 : inR y 1 60 := by simpa [inR, i2l_toInt] using b13
      obtain ⟨yn, rfl, yh, yq⟩ := inR_nat (x := y) ⟨Int.le_trans (by decide) b13.1, b13.2⟩
      have yr := (inR_n yq).mp b13
      refine n_zeq hx hb (by decide) (tgt := 35) dX11_deceive_16 (by decide) (fun q => absurd q (by decide)) (fun _ => ?_)
      refine lv_aload_n hx hb dX11_deceive_19 rfl (lv_at hl 0 rfl) ?_
      refine lv_bipush (v := nI 8) hx hb dX11_deceive_20 (by decide) ?_
      refine lv_iload_n hx hb dX11_deceive_22 rfl (lv_at hl 1 rfl) ?_
      refine n_add hx hb dX11_deceive_23 ?_
      refine lv_bipush (v := nI 47) hx hb dX11_deceive_24 (by decide) ?_
      refine lv_iconst (v := -1) hx hb dX11_deceive_26 (by decide) ?_
      refine lv_iconst (v := -1) hx hb dX11_deceive_27 (by decide) ?_
      refine lv_iload_n hx hb dX11_deceive_28 rfl (lv_at hl 2 rfl) ?_
      refine cV_i0 S0 hG hA h hl.1 kw_RX11_185 kdV_X11_mostBy (c_X11_mostBy (by omega) (by decide) (Or.inl rfl) (fun v hv => ⟨Inv_be hI (by omega) hv, by rw [va_up_n _ _ (by omega)]; omega⟩) (big_n (goF_inv (Inv_be hI (by omega) (by decide)) _ (by rw [va_up_n _ _ (by omega)]; omega)))) ⟨rfl, rfl, by decide, by decide, Nat.le_refl _, Nat.le_refl _⟩ rfl 11 0 rfl rfl rfl (Nat.le_of_ble_eq_true rfl) dX11_deceive_29 (fun _ => rfl) (fun r u H locs hq h => ?_)
      obtain ⟨u1, u2, u3⟩ := u
      refine lv_goto (tgt := 41) hx hb dX11_deceive_32 (by decide) ?_
      exact hret _ (st, _, _, _) _ _ _ _ (Or.inl ⟨⟨b1, b13⟩, by rw [hq, nt_nI xq, nt_nI yq]; exact nI_cong (am_cong (fun i _ => neg_mulI _)), rfl⟩) h dX11_deceive_41
    ·
      have b13 : ¬ inR y 1 60 := by simpa [inR, i2l_toInt] using b13
      refine n_zeq hx hb (by decide) (tgt := 35) dX11_deceive_16 (by decide) (fun _ => ?_) (fun q => absurd q (by decide))
      refine lv_aload_n hx hb dX11_deceive_35 rfl (lv_at hl 0 rfl) ?_
      refine lv_ldc (v := -1000000001) hx hb S0.2.2.2.1 (S0.2.2.2.2 _ (rin6 _ (List.mem_of_getElem? (i := 21) rfl))) dX11_deceive_36 ?_
      refine cV_i0 S0 hG hA h hl.1 kw_RX11_76 kdV_X11_finds (c_X11_finds (k := 0) (by decide) (by decide)) ⟨rfl, rfl, by decide, by decide, Nat.le_refl _, Nat.le_refl _⟩ rfl 11 0 rfl rfl rfl (Nat.le_of_ble_eq_true rfl) dX11_deceive_38 (fun _ => rfl) (fun r u H locs hq h => ?_)
      obtain rfl := hq
      exact hret _ (_, _, _, _) _ _ _ _ (Or.inr ⟨by first | exact fun q => b1 q.1 | exact fun q => b13 q.2, rfl, rfl⟩) h dX11_deceive_41
  ·
    refine n_zeq hx hb (by decide) (tgt := 35) dX11_deceive_4 (by decide) (fun _ => ?_) (fun q => absurd q (by decide))
    refine lv_aload_n hx hb dX11_deceive_35 rfl (lv_at hl 0 rfl) ?_
    refine lv_ldc (v := -1000000001) hx hb S0.2.2.2.1 (S0.2.2.2.2 _ (rin6 _ (List.mem_of_getElem? (i := 21) rfl))) dX11_deceive_36 ?_
    refine cV_i0 S0 hG hA h hl.1 kw_RX11_76 kdV_X11_finds (c_X11_finds (k := 0) (by decide) (by decide)) ⟨rfl, rfl, by decide, by decide, Nat.le_refl _, Nat.le_refl _⟩ rfl 11 0 rfl rfl rfl (Nat.le_of_ble_eq_true rfl) dX11_deceive_38 (fun _ => rfl) (fun r u H locs hq h => ?_)
    obtain rfl := hq
    exact hret _ (_, _, _, _) _ _ _ _ (Or.inr ⟨by first | exact fun q => b1 q.1 | exact fun q => b13 q.2, rfl, rfl⟩) h dX11_deceive_41
