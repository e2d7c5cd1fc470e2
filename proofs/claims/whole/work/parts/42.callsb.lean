variable {G : GT} {l : Launch} {o : Nat → Nat} {f st tb : Row} {tn : Nat} {nu : Nat → Int64} {bi si : Row} {kp : Nat} {g : Row} {D : DT}
set_option maxHeartbeats 4000000 in
set_option maxRecDepth 100000 in
theorem c_X10_compose {x y : Int32} (hI : Inv f) (h0 : f 0 ≤ 99999) : Ki G l yX10_compose cX10_compose 7 (some .int) (RM 7 135) [.ref (o 0), .int x, .int y] (wC G o f st tb tn nu bi si kp g D) (fun u : Row × DT => wC G o f u.1 tb tn nu bi si kp g u.2) (fun r u => P_compose f st x y r u.1) := by
  refine Ki.of (by decide) (Nat.le_of_ble_eq_true rfl) ?_
  intro p e s m args below meth c A Q ls hx hb S0 hG hA h hret hl
  have S0 : CF p m c cX10_compose 7 s args RX10 := S0
  have hl : lv_has ls 7 [(0, .ref (o 0)), (1, .int x), (2, .int y)] := hl
  refine lv_iload_n hx hb dX10_compose_0 rfl (lv_at hl 1 rfl) ?_
  refine lv_iconst (v := nI 0) hx hb dX10_compose_1 (by decide) ?_
  refine lv_iconst (v := nI 5) hx hb dX10_compose_2 (by decide) ?_
  refine cS_iE S0 hG hA h hl.1 kw_RX10_49 kdS_X10_isOutside (c_X10_isOutside) ⟨rfl, rfl, by decide, by decide, Nat.le_refl _, Nat.le_refl _⟩ rfl rfl (Nat.le_of_ble_eq_true rfl) dX10_compose_3 (fun r u H locs hq h => ?_)
  have hq : (r = nI 1 ∧ ¬ inR x 0 5) ∨ (r = nI 0 ∧ inR x 0 5) := hq
  rcases hq with ⟨rfl, b3⟩ | ⟨rfl, b3⟩
  ·
    refine n_zne hx hb (by decide) (tgt := 19) dX10_compose_6 (by decide) (fun _ => ?_) (fun q => absurd q (by decide))
    refine lv_aload_n hx hb dX10_compose_19 rfl (lv_at hl 0 rfl) ?_
    refine lv_ldc (v := -1000000001) hx hb S0.2.2.2.1 (S0.2.2.2.2 _ (rin6 _ (List.mem_of_getElem? (i := 6) rfl))) dX10_compose_20 ?_
    refine cV_i0 S0 hG hA h hl.1 kw_RX10_58 kdV_X10_tell (c_X10_tell (k := 0) (by decide) (by decide)) ⟨rfl, rfl, by decide, by decide, Nat.le_refl _, Nat.le_refl _⟩ rfl 10 0 rfl rfl rfl (Nat.le_of_ble_eq_true rfl) dX10_compose_22 (fun _ => rfl) (fun r u H locs hq h => ?_)
    obtain rfl := hq
    exact hret _ (bump st 0, D) _ _ _ _ (Or.inr ⟨fun q9 => b3 q9.1, rfl, rfl⟩) h dX10_compose_25
  ·
    refine n_zne hx hb (by decide) (tgt := 19) dX10_compose_6 (by decide) (fun q => absurd q (by decide)) (fun _ => ?_)
    refine lv_iload_n hx hb dX10_compose_9 rfl (lv_at hl 2 rfl) ?_
    refine lv_iconst (v := nI 1) hx hb dX10_compose_10 (by decide) ?_
    refine lv_bipush (v := nI 100) hx hb dX10_compose_11 (by decide) ?_
    refine cS_iE S0 hG hA h hl.1 kw_RX10_49 kdS_X10_isOutside (c_X10_isOutside) ⟨rfl, rfl, by decide, by decide, Nat.le_refl _, Nat.le_refl _⟩ rfl rfl (Nat.le_of_ble_eq_true rfl) dX10_compose_13 (fun r u H locs hq h => ?_)
    have hq : (r = nI 1 ∧ ¬ inR y 1 100) ∨ (r = nI 0 ∧ inR y 1 100) := hq
    rcases hq with ⟨rfl, b13⟩ | ⟨rfl, b13⟩
    ·
      refine n_zeq hx hb (by decide) (tgt := 26) dX10_compose_16 (by decide) (fun q => absurd q (by decide)) (fun _ => ?_)
      refine lv_aload_n hx hb dX10_compose_19 rfl (lv_at hl 0 rfl) ?_
      refine lv_ldc (v := -1000000001) hx hb S0.2.2.2.1 (S0.2.2.2.2 _ (rin6 _ (List.mem_of_getElem? (i := 6) rfl))) dX10_compose_20 ?_
      refine cV_i0 S0 hG hA h hl.1 kw_RX10_58 kdV_X10_tell (c_X10_tell (k := 0) (by decide) (by decide)) ⟨rfl, rfl, by decide, by decide, Nat.le_refl _, Nat.le_refl _⟩ rfl 10 0 rfl rfl rfl (Nat.le_of_ble_eq_true rfl) dX10_compose_22 (fun _ => rfl) (fun r u H locs hq h => ?_)
      obtain rfl := hq
      exact hret _ (bump st 0, D) _ _ _ _ (Or.inr ⟨fun q9 => b13 q9.2, rfl, rfl⟩) h dX10_compose_25
    ·
      obtain ⟨jx, rfl, jx1, jx2⟩ := inR_nat b3
      obtain ⟨jy, rfl, jy1, jy2⟩ := inR_nat ⟨by have := b13.1; omega, b13.2⟩
      have jy0 := (inR_n (by omega)).mp b13
      refine n_zeq hx hb (by decide) (tgt := 26) dX10_compose_16 (by decide) (fun _ => ?_) (fun q => absurd q (by decide))
      refine lv_iconst (v := nI 0) hx hb dX10_compose_26 (by decide) ?_
      refine lv_istore_n hx hb dX10_compose_27 rfl hl (by decide) rfl (fun ls hl => ?_)
      refine lv_iconst (v := nI 0) hx hb dX10_compose_28 (by decide) ?_
      refine lv_istore hx hb dX10_compose_29 hl (by decide) rfl (fun ls hl => ?_)
      refine lv_iconst (v := nI 0) hx hb dX10_compose_31 (by decide) ?_
      refine lv_istore hx hb dX10_compose_32 hl (by decide) rfl (fun ls hl => ?_)
      have lp34 : ∀ (kf : Nat) (v best : Nat) (mo : Int32) (d1 : Row × JF) (H : Heap) (locs : List Loc) (ls : Array Slot) (hv : v ≤ 12) (hbm : 0 < v → best = am (tryV f (2 + jx) (-1) jy) (v - 1) ∧ mo = (tryV f (2 + jx) (-1) jy) (am (tryV f (2 + jx) (-1) jy) (v - 1))), 12 - v < kf → WX G A s H locs (wC G o f st tb tn nu bi si kp g (D.1, d1, D.2.2)) → lv_has ls 7 [(0, .ref (o 0)), (1, .int (nI jx)), (2, .int (nI jy)), (3, .int (nI best)), (4, .int mo), (5, .int (nI v))] → W p l e (RM 7 135) s m args below meth c H locs 0 0 Q (F0 m 34 ls []) := by
        intro kf
        induction kf with
        | zero => intro v best mo d1 H locs ls hv hbm hm; exact absurd hm (Nat.not_lt_zero _)
        | succ kf ih34 =>
          intro v best mo d1 H locs ls hv hbm hm h hl
          refine lv_iload hx hb dX10_compose_34 (lv_at hl 5 rfl) ?_
          refine lv_bipush (v := nI 12) hx hb dX10_compose_36 (by decide) ?_
          refine n_cge hx hb (by omega) (by omega) (tgt := 105) dX10_compose_38 (by decide) (fun c38 => ?_) (fun c38 => ?_)
          ·
            refine lv_iload_n hx hb dX10_compose_105 rfl (lv_at hl 3 rfl) ?_
            obtain rfl : v = 12 := by omega
            exact hret _ (st, (D.1, d1, D.2.2)) _ _ _ _ (Or.inl ⟨⟨b3, b13⟩, by rw [nt_nI jx2, nt_nI jy2]; exact nI_cong (hbm (by omega)).1, rfl⟩) h dX10_compose_106
          ·
            refine lv_aload_n hx hb dX10_compose_41 rfl (lv_at hl 0 rfl) ?_
            refine gC_trial S0 hG h dX10_compose_42 ?_
            refine lv_aload_n hx hb dX10_compose_45 rfl (lv_at hl 0 rfl) ?_
            refine gC_present S0 hG h dX10_compose_46 ?_
            refine cN_vC (w2 := fun u => wC G o f st tb tn nu bi si kp g (D.1, (f, d1.2), D.2.2)) S0 hG hA h hl.1 (ws_ok (rin22 _ (List.mem_of_getElem? (i := 18) rfl))) (rin2 _ (List.mem_of_getElem? (i := 3) rfl)) (rin22 _ (List.mem_of_getElem? (i := 16) rfl)) (rin22 _ (List.mem_of_getElem? (i := 17) rfl)) (host := "ComposedInterval") (List.mem_of_getElem? (i := 55) rfl) kdS_X3_become (c_X3_become (a := aT o) (b := aP o) (f := d1.1) (q := d1.2.1) (sp := d1.2.2.1) (rg := d1.2.2.2.1) (wd := d1.2.2.2.2.1) (it := d1.2.2.2.2.2) (f2 := f) (q2 := D.1.1) (sp2 := D.1.2.1) (rg2 := D.1.2.2.1) (wd2 := D.1.2.2.2.1) (it2 := D.1.2.2.2.2)) ⟨rfl, rfl, by decide, by decide, Nat.le_refl _, Nat.le_refl _⟩ rfl 3 17 rfl rfl [17, 18, 19, 20, 21, 22, 23, 24, 25, 1, 2, 3, 4, 5, 6, 7, 8, 9] (by decide) rfl rfl rfl (Nat.le_of_ble_eq_true rfl) dX10_compose_49 (fun _ H1 hk hP1 => WX.back h [17, 18, 19, 20, 21, 22, 23, 24, 25, 1, 2, 3, 4, 5, 6, 7, 8, 9] rfl hk hP1 (fit_TP (D := (D.1, d1, D.2.2)))) (fun _ => rfl) (fun u H locs hq h => ?_)
            refine lv_aload_n hx hb dX10_compose_52 rfl (lv_at hl 0 rfl) ?_
            refine gC_trial S0 hG h dX10_compose_53 ?_
            refine kTg_score S0 hG h dX10_compose_56 ?_
            refine lv_iload_n hx hb dX10_compose_59 rfl (lv_at hl 1 rfl) ?_
            refine lv_iload hx hb dX10_compose_60 (lv_at hl 5 rfl) ?_
            refine kTs_score S0 hG h (by omega) dX10_compose_62 (fun H locs h => ?_)
            have h : WX G A s H locs (wC G o f st tb tn nu bi si kp g (D.1, ((va_up f (2 + jx) v), d1.2), D.2.2)) := h
            have hI9 : Inv (va_up f (2 + jx) v) := Inv_sc hI (by omega) (by omega)
            have h09 : (va_up f (2 + jx) v) 0 + jy ≤ 200000 := by rw [va_up_n _ _ (by omega)]; omega
            have hI8 := goF_inv hI9 jy h09
            have e9 : (tryV f (2 + jx) (-1) jy) v = harm (goF (va_up f (2 + jx) v) jy) := valB_h _
            refine lv_aload_n hx hb dX10_compose_63 rfl (lv_at hl 0 rfl) ?_
            refine gC_trial S0 hG h dX10_compose_64 ?_
            refine lv_iload_n hx hb dX10_compose_67 rfl (lv_at hl 2 rfl) ?_
            refine cN_vC (w2 := fun u => wC G o f st tb tn nu bi si kp g (D.1, (goF (va_up f (2 + jx) v) jy, u), D.2.2)) S0 hG hA h hl.1 (ws_ok (rin20 _ (List.mem_of_getElem? (i := 20) rfl))) (rin2 _ (List.mem_of_getElem? (i := 3) rfl)) (rin20 _ (List.mem_of_getElem? (i := 18) rfl)) (rin20 _ (List.mem_of_getElem? (i := 19) rfl)) (host := "ComposedInterval") (List.mem_of_getElem? (i := 54) rfl) kdS_X3_go (c_X3_go (a := aT o) (f := (va_up f (2 + jx) v)) (q := d1.2.1) (sp := d1.2.2.1) (rg := d1.2.2.2.1) (wd := d1.2.2.2.2.1) (it := d1.2.2.2.2.2) hI9 h09) ⟨rfl, rfl, by decide, by decide, Nat.le_refl _, Nat.le_refl _⟩ rfl 3 17 rfl rfl [17, 18, 19, 20, 21, 22, 23, 24, 25, 10, 11, 12, 13, 14, 15, 16] (by decide) rfl rfl rfl (Nat.le_of_ble_eq_true rfl) dX10_compose_68 (fun _ H1 hk hP1 => WX.back h [17, 18, 19, 20, 21, 22, 23, 24, 25, 10, 11, 12, 13, 14, 15, 16] rfl hk hP1 (fit_T (D := (D.1, ((va_up f (2 + jx) v), d1.2), D.2.2)))) (fun _ => rfl) (fun u H locs hq h => ?_)
            obtain ⟨jg, rfl⟩ : ∃ z9, z9 = u := ⟨u, rfl⟩
            refine lv_aload_n hx hb dX10_compose_71 rfl (lv_at hl 0 rfl) ?_
            refine gC_trial S0 hG h dX10_compose_72 ?_
            refine cN_iC (w2 := fun u => wC G o f st tb tn nu bi si kp g (D.1, ((goF (va_up f (2 + jx) v) jy), jg), D.2.2)) S0 hG hA h hl.1 (ws_ok (rin11 _ (List.mem_of_getElem? (i := 12) rfl))) (rin2 _ (List.mem_of_getElem? (i := 3) rfl)) (rin11 _ (List.mem_of_getElem? (i := 10) rfl)) (rin11 _ (List.mem_of_getElem? (i := 11) rfl)) (host := "ComposedInterval") (List.mem_of_getElem? (i := 47) rfl) kdS_X3_sumHarmony (c_X3_sumHarmony (a := aT o) (f := (goF (va_up f (2 + jx) v) jy)) (q := jg.1) (sp := jg.2.1) (rg := jg.2.2.1) (wd := jg.2.2.2.1) (it := jg.2.2.2.2) hI8) ⟨rfl, rfl, by decide, by decide, Nat.le_refl _, Nat.le_refl _⟩ rfl 3 17 rfl rfl [17, 18, 19, 20, 21, 22, 23, 24, 25, 10, 11, 12, 13, 14, 15, 16] (by decide) rfl rfl rfl (Nat.le_of_ble_eq_true rfl) dX10_compose_75 (fun _ H1 hk hP1 => WX.back h [17, 18, 19, 20, 21, 22, 23, 24, 25, 10, 11, 12, 13, 14, 15, 16] rfl hk hP1 (fit_same rfl)) (fun _ => rfl) (fun r u H locs hq h => ?_)
            obtain rfl := hq
            refine lv_istore hx hb dX10_compose_78 hl (by decide) rfl (fun ls hl => ?_)
            refine lv_iload hx hb dX10_compose_80 (lv_at hl 6 rfl) ?_
            refine n_zeq hx hb (by omega) (tgt := 92) dX10_compose_82 (by decide) (fun c82 => ?_) (fun c82 => ?_)
            ·
              refine lv_iload hx hb dX10_compose_92 (lv_at hl 0 rfl) ?_
              refine lv_istore hx hb dX10_compose_94 hl (by decide) rfl (fun ls hl => ?_)
              refine lv_iload hx hb dX10_compose_96 (lv_at hl 6 rfl) ?_
              refine lv_istore_n hx hb dX10_compose_98 rfl hl (by decide) rfl (fun ls hl => ?_)
              refine lv_iinc hx hb dX10_compose_99 hl (k := 6) rfl (inc_1 _) (by decide) rfl (fun ls hl => ?_)
              refine lv_goto (tgt := 34) hx hb dX10_compose_102 (by decide) ?_
              exact ih34 (v + 1) v (harm (goF (va_up f (2 + jx) v) jy)) (goF (va_up f (2 + jx) v) jy, jg) _ _ _ (by omega) (fun _ => by obtain ⟨z1, z2⟩ := cst_0 (g := (tryV f (2 + jx) (-1) jy)) (T := (tryV f (2 + jx) (-1) jy)) c82; exact ⟨z1, e9.symm.trans z2⟩) (by omega) h (lv_sub hl [4, 5, 6, 1, 2, 0] rfl)
            ·
              refine lv_iload hx hb dX10_compose_85 (lv_at hl 0 rfl) ?_
              refine lv_iload hx hb dX10_compose_87 (lv_at hl 5 rfl) ?_
              refine lv_icmp_le hx hb (tgt := 99) dX10_compose_89 (by decide) (fun c89 => ?_) (fun c89 => ?_)
              ·
                refine lv_iinc hx hb dX10_compose_99 hl (k := 6) rfl (inc_1 _) (by decide) rfl (fun ls hl => ?_)
                refine lv_goto (tgt := 34) hx hb dX10_compose_102 (by decide) ?_
                exact ih34 (v + 1) best mo (goF (va_up f (2 + jx) v) jy, jg) _ _ _ (by omega) (fun _ => cst_t (v := v) hbm c82 (by rw [e9]; exact c89)) (by omega) h (lv_sub hl [2, 3, 4, 5, 6, 0] rfl)
              ·
                refine lv_iload hx hb dX10_compose_92 (lv_at hl 0 rfl) ?_
                refine lv_istore hx hb dX10_compose_94 hl (by decide) rfl (fun ls hl => ?_)
                refine lv_iload hx hb dX10_compose_96 (lv_at hl 6 rfl) ?_
                refine lv_istore_n hx hb dX10_compose_98 rfl hl (by decide) rfl (fun ls hl => ?_)
                refine lv_iinc hx hb dX10_compose_99 hl (k := 6) rfl (inc_1 _) (by decide) rfl (fun ls hl => ?_)
                refine lv_goto (tgt := 34) hx hb dX10_compose_102 (by decide) ?_
                exact ih34 (v + 1) v (harm (goF (va_up f (2 + jx) v) jy)) (goF (va_up f (2 + jx) v) jy, jg) _ _ _ (by omega) (fun _ => by obtain ⟨z1, z2⟩ := cst_f hbm c82 (fun z => c89 (by rw [← e9]; exact z)); exact ⟨z1, e9.symm.trans z2⟩) (by omega) h (lv_sub hl [4, 5, 6, 1, 2, 0] rfl)
      exact lp34 _ 0 0 (nI 0) D.2.1 _ _ _ (by omega) (fun q9 => absurd q9 (by omega)) (Nat.lt_succ_self _) h (lv_sub hl [3, 4, 5, 2, 1, 0] rfl)
