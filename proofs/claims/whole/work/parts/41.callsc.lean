variable {G : GT} {l : Launch} {o : Nat → Nat} {f st tb : Row} {tn : Nat} {nu : Nat → Int64} {bi si : Row} {kp : Nat} {g : Row} {D : DT}
set_option maxHeartbeats 4000000 in
set_option maxRecDepth 100000 in
theorem c_X10_bestPlayed1 {x y : Nat} (hI : Inv f) (h0 : f 0 ≤ 99999) (hx1 : x < f 1) (hy1 : y ≤ 100) : Ki G l yX10_bestPlayed cX10_bestPlayed 8 (some .int) (RM 7 135) [.ref (o 0), .ref (o 21), .int (nI 12), .int (nI x), .int (nI y)] (wC G o f st tb tn nu bi si kp g D) (fun u : DT => wC G o f st tb tn nu bi si kp g u) (fun r _ => r = nI (am (tryV f (11 + 5 * x + 1) (nI (11 + 5 * x + 3)) y) 11)) := by
  refine Ki.of (by decide) (Nat.le_of_ble_eq_true rfl) ?_
  intro p e s m args below meth c A Q ls hx hb S0 hG hA h hret hl
  have S0 : CF p m c cX10_bestPlayed 8 s args RX10 := S0
  have hl : lv_has ls 8 [(0, .ref (o 0)), (1, .ref (o 21)), (2, .int (nI 12)), (3, .int (nI x)), (4, .int (nI y))] := hl
  have h8 := hI.2.1
  have HG : ¬ (tryV f (11 + 5 * x + 1) (nI (11 + 5 * x + 3)) y) 0 ≤ -1 := by unfold tryV; rw [valB_w _ (by omega)]; exact nI_nl1 (Nat.lt_of_le_of_lt (its_goF_le (p := x) (w := 3) (Inv_set (w := 1) hI (by omega) (by decide)) (by rw [va_up_n _ _ (by omega)]; omega) (by omega) (by omega)) (by decide))
  refine lv_iconst (v := nI 0) hx hb dX10_bestPlayed_0 (by decide) ?_
  refine lv_istore hx hb dX10_bestPlayed_1 hl (by decide) rfl (fun ls hl => ?_)
  refine lv_iconst (v := -1) hx hb dX10_bestPlayed_3 (by decide) ?_
  refine lv_istore hx hb dX10_bestPlayed_4 hl (by decide) rfl (fun ls hl => ?_)
  refine lv_iconst (v := nI 0) hx hb dX10_bestPlayed_6 (by decide) ?_
  refine lv_istore hx hb dX10_bestPlayed_7 hl (by decide) rfl (fun ls hl => ?_)
  have lp9 : ∀ (kf : Nat) (v best : Nat) (mo : Int32) (d1 : Row × JF) (H : Heap) (locs : List Loc) (ls : Array Slot) (hv : v ≤ 12) (hbm : (v = 0 → best = 0 ∧ mo = -1) ∧ (0 < v → best = am (tryV f (11 + 5 * x + 1) (nI (11 + 5 * x + 3)) y) (v - 1) ∧ mo = (tryV f (11 + 5 * x + 1) (nI (11 + 5 * x + 3)) y) (am (tryV f (11 + 5 * x + 1) (nI (11 + 5 * x + 3)) y) (v - 1)))), 12 - v < kf → WX G A s H locs (wC G o f st tb tn nu bi si kp g (D.1, d1, D.2.2)) → lv_has ls 8 [(0, .ref (o 0)), (1, .ref (o 21)), (2, .int (nI 12)), (3, .int (nI x)), (4, .int (nI y)), (5, .int (nI best)), (6, .int mo), (7, .int (nI v))] → W p l e (RM 7 135) s m args below meth c H locs 0 0 Q (F0 m 9 ls []) := by
    intro kf
    induction kf with
    | zero => intro v best mo d1 H locs ls hv hbm hm; exact absurd hm (Nat.not_lt_zero _)
    | succ kf ih9 =>
      intro v best mo d1 H locs ls hv hbm hm h hl
      refine lv_iload hx hb dX10_bestPlayed_9 (lv_at hl 7 rfl) ?_
      refine lv_iload_n hx hb dX10_bestPlayed_11 rfl (lv_at hl 2 rfl) ?_
      refine n_cge hx hb (by omega) (by omega) (tgt := 75) dX10_bestPlayed_12 (by decide) (fun c12 => ?_) (fun c12 => ?_)
      ·
        refine lv_iload hx hb dX10_bestPlayed_75 (lv_at hl 5 rfl) ?_
        obtain rfl : v = 12 := by omega
        exact hret _ ((D.1, d1, D.2.2)) _ _ _ _ (nI_cong (hbm.2 (by omega)).1) h dX10_bestPlayed_77
      ·
        refine lv_aload_n hx hb dX10_bestPlayed_15 rfl (lv_at hl 0 rfl) ?_
        refine gC_trial S0 hG h dX10_bestPlayed_16 ?_
        refine lv_aload_n hx hb dX10_bestPlayed_19 rfl (lv_at hl 0 rfl) ?_
        refine gC_present S0 hG h dX10_bestPlayed_20 ?_
        refine cN_vC (w2 := fun u => wC G o f st tb tn nu bi si kp g (D.1, (f, d1.2), D.2.2)) S0 hG hA h hl.1 (ws_ok (rin22 _ (List.mem_of_getElem? (i := 18) rfl))) (rin2 _ (List.mem_of_getElem? (i := 3) rfl)) (rin22 _ (List.mem_of_getElem? (i := 16) rfl)) (rin22 _ (List.mem_of_getElem? (i := 17) rfl)) (host := "ComposedInterval") (List.mem_of_getElem? (i := 55) rfl) kdS_X3_become (c_X3_become (a := aT o) (b := aP o) (f := d1.1) (q := d1.2.1) (sp := d1.2.2.1) (rg := d1.2.2.2.1) (wd := d1.2.2.2.2.1) (it := d1.2.2.2.2.2) (f2 := f) (q2 := D.1.1) (sp2 := D.1.2.1) (rg2 := D.1.2.2.1) (wd2 := D.1.2.2.2.1) (it2 := D.1.2.2.2.2)) ⟨rfl, rfl, by decide, by decide, Nat.le_refl _, Nat.le_refl _⟩ rfl 3 17 rfl rfl [17, 18, 19, 20, 21, 22, 23, 24, 25, 1, 2, 3, 4, 5, 6, 7, 8, 9] (by decide) rfl rfl rfl (Nat.le_of_ble_eq_true rfl) dX10_bestPlayed_23 (fun _ H1 hk hP1 => WX.back h [17, 18, 19, 20, 21, 22, 23, 24, 25, 1, 2, 3, 4, 5, 6, 7, 8, 9] rfl hk hP1 (fit_TP (D := (D.1, d1, D.2.2)))) (fun _ => rfl) (fun u H locs hq h => ?_)
        refine lv_aload_n hx hb dX10_bestPlayed_26 rfl (lv_at hl 1 rfl) ?_
        refine lv_iload_n hx hb dX10_bestPlayed_27 rfl (lv_at hl 3 rfl) ?_
        refine lv_iload hx hb dX10_bestPlayed_28 (lv_at hl 7 rfl) ?_
        refine kTs_at S0 hG h (by omega) dX10_bestPlayed_30 (fun H locs h => ?_)
        have h : WX G A s H locs (wC G o f st tb tn nu bi si kp g (D.1, ((va_up f (11 + 5 * x + 1) v), d1.2), D.2.2)) := h
        have e8 : v ≤ 11 := by omega
        have hI9 : Inv (va_up f (11 + 5 * x + 1) v) := Inv_set (w := 1) hI (by omega) (by simpa [bnd] using e8)
        have h09 : (va_up f (11 + 5 * x + 1) v) 0 + y ≤ 200000 := by rw [up_lo (by omega)]; omega
        have e9 : (tryV f (11 + 5 * x + 1) (nI (11 + 5 * x + 3)) y) v = nI (its (goF (va_up f (11 + 5 * x + 1) v) y) x 3) := valB_w _ (by omega)
        refine lv_aload_n hx hb dX10_bestPlayed_31 rfl (lv_at hl 0 rfl) ?_
        refine gC_trial S0 hG h dX10_bestPlayed_32 ?_
        refine lv_iload hx hb dX10_bestPlayed_35 (lv_at hl 4 rfl) ?_
        refine cN_vC (w2 := fun u => wC G o f st tb tn nu bi si kp g (D.1, (goF (va_up f (11 + 5 * x + 1) v) y, u), D.2.2)) S0 hG hA h hl.1 (ws_ok (rin20 _ (List.mem_of_getElem? (i := 20) rfl))) (rin2 _ (List.mem_of_getElem? (i := 3) rfl)) (rin20 _ (List.mem_of_getElem? (i := 18) rfl)) (rin20 _ (List.mem_of_getElem? (i := 19) rfl)) (host := "ComposedInterval") (List.mem_of_getElem? (i := 54) rfl) kdS_X3_go (c_X3_go (a := aT o) (f := (va_up f (11 + 5 * x + 1) v)) (q := d1.2.1) (sp := d1.2.2.1) (rg := d1.2.2.2.1) (wd := d1.2.2.2.2.1) (it := d1.2.2.2.2.2) hI9 h09) ⟨rfl, rfl, by decide, by decide, Nat.le_refl _, Nat.le_refl _⟩ rfl 3 17 rfl rfl [17, 18, 19, 20, 21, 22, 23, 24, 25, 10, 11, 12, 13, 14, 15, 16] (by decide) rfl rfl rfl (Nat.le_of_ble_eq_true rfl) dX10_bestPlayed_37 (fun _ H1 hk hP1 => WX.back h [17, 18, 19, 20, 21, 22, 23, 24, 25, 10, 11, 12, 13, 14, 15, 16] rfl hk hP1 (fit_T (D := (D.1, ((va_up f (11 + 5 * x + 1) v), d1.2), D.2.2)))) (fun _ => rfl) (fun u H locs hq h => ?_)
        obtain ⟨jg, rfl⟩ : ∃ z9, z9 = u := ⟨u, rfl⟩
        refine lv_aload_n hx hb dX10_bestPlayed_40 rfl (lv_at hl 0 rfl) ?_
        refine gC_trial S0 hG h dX10_bestPlayed_41 ?_
        refine kTg_played S0 hG h dX10_bestPlayed_44 ?_
        refine lv_iload_n hx hb dX10_bestPlayed_47 rfl (lv_at hl 3 rfl) ?_
        refine kTr_played S0 hG h (by omega) dX10_bestPlayed_48 ?_
        refine tN (t := its (goF (va_up f (11 + 5 * x + 1) v) y) _ 3) rfl ?_
        refine lv_iload hx hb dX10_bestPlayed_49 (lv_at hl 6 rfl) ?_
        refine lv_icmp_le hx hb (tgt := 69) dX10_bestPlayed_51 (by decide) (fun c51 => ?_) (fun c51 => ?_)
        ·
          refine lv_iinc hx hb dX10_bestPlayed_69 hl (k := 7) rfl (inc_1 _) (by decide) rfl (fun ls hl => ?_)
          refine lv_goto (tgt := 9) hx hb dX10_bestPlayed_72 (by decide) ?_
          exact ih9 (v + 1) best mo (goF (va_up f (11 + 5 * x + 1) v) y, jg) _ _ _ (by omega) ⟨fun q9 => absurd q9 (by omega), fun _ => bsg_t (v := v) HG hbm (by rw [e9]; exact c51)⟩ (by omega) h (lv_sub hl [1, 2, 3, 4, 5, 6, 7, 0] rfl)
        ·
          refine lv_aload_n hx hb dX10_bestPlayed_54 rfl (lv_at hl 0 rfl) ?_
          refine gC_trial S0 hG h dX10_bestPlayed_55 ?_
          refine kTg_played S0 hG h dX10_bestPlayed_58 ?_
          refine lv_iload_n hx hb dX10_bestPlayed_61 rfl (lv_at hl 3 rfl) ?_
          refine kTr_played S0 hG h (by omega) dX10_bestPlayed_62 ?_
          refine tN (t := its (goF (va_up f (11 + 5 * x + 1) v) y) _ 3) rfl ?_
          refine lv_istore hx hb dX10_bestPlayed_63 hl (by decide) rfl (fun ls hl => ?_)
          refine lv_iload hx hb dX10_bestPlayed_65 (lv_at hl 7 rfl) ?_
          refine lv_istore hx hb dX10_bestPlayed_67 hl (by decide) rfl (fun ls hl => ?_)
          refine lv_iinc hx hb dX10_bestPlayed_69 hl (k := 7) rfl (inc_1 _) (by decide) rfl (fun ls hl => ?_)
          refine lv_goto (tgt := 9) hx hb dX10_bestPlayed_72 (by decide) ?_
          exact ih9 (v + 1) v (nI (its (goF (va_up f (11 + 5 * x + 1) v) y) x 3)) (goF (va_up f (11 + 5 * x + 1) v) y, jg) _ _ _ (by omega) ⟨fun q9 => absurd q9 (by omega), fun _ => by obtain ⟨z1, z2⟩ := bsg_f hbm (fun z => c51 (by rw [← e9]; exact z)); exact ⟨z1, e9.symm.trans z2⟩⟩ (by omega) h (lv_sub hl [3, 4, 5, 6, 7, 1, 2, 0] rfl)
  exact lp9 _ 0 0 (-1) D.2.1 _ _ _ (by omega) ⟨fun _ => ⟨rfl, rfl⟩, fun q9 => absurd q9 (by omega)⟩ (Nat.lt_succ_self _) h (lv_sub hl [3, 4, 5, 6, 7, 2, 1, 0] rfl)
