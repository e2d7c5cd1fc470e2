variable {G : GT} {l : Launch} {o : Nat → Nat} {f st tb : Row} {tn : Nat} {nu : Nat → Int64} {bi si : Row} {kp : Nat} {g : Row} {D : DT}
set_option maxHeartbeats 4000000 in
set_option maxRecDepth 100000 in
theorem c_X10_quick {x y z : Int32} (hI : Inv f) (h0 : f 0 ≤ 99999) : Ki G l yX10_quick cX10_quick 5 (some .int) (RM 7 135) [.ref (o 0), .int x, .int y, .int z] (wC G o f st tb tn nu bi si kp g D) (fun u : Row × DT => wC G o f u.1 tb tn nu bi si kp g u.2) (fun r u => P_quick f st x y z r u.1) := by
  refine Ki.of (by decide) (Nat.le_of_ble_eq_true rfl) ?_
  intro p e s m args below meth c A Q ls hx hb S0 hG hA h hret hl
  have S0 : CF p m c cX10_quick 5 s args RX10 := S0
  have hl : lv_has ls 5 [(0, .ref (o 0)), (1, .int x), (2, .int y), (3, .int z)] := hl
  have h8 := hI.2.1
  refine lv_aload_n hx hb dX10_quick_0 rfl (lv_at hl 0 rfl) ?_
  refine lv_iload_n hx hb dX10_quick_1 rfl (lv_at hl 1 rfl) ?_
  refine cV_i0 S0 hG hA h hl.1 kw_RX10_106 kdV_X10_isNobody (c_X10_isNobody hI.2.1) ⟨rfl, rfl, by decide, by decide, Nat.le_refl _, Nat.le_refl _⟩ rfl 10 0 rfl rfl rfl (Nat.le_of_ble_eq_true rfl) dX10_quick_2 (fun _ => rfl) (fun r u H locs hq h => ?_)
  rcases hq with ⟨rfl, b2⟩ | ⟨rfl, b2⟩
  ·
    refine n_zne hx hb (by decide) (tgt := 29) dX10_quick_5 (by decide) (fun _ => ?_) (fun q => absurd q (by decide))
    refine lv_aload_n hx hb dX10_quick_29 rfl (lv_at hl 0 rfl) ?_
    refine lv_ldc (v := -1000000001) hx hb S0.2.2.2.1 (S0.2.2.2.2 _ (rin6 _ (List.mem_of_getElem? (i := 6) rfl))) dX10_quick_30 ?_
    refine cV_i0 S0 hG hA h hl.1 kw_RX10_58 kdV_X10_tell (c_X10_tell (k := 0) (by decide) (by decide)) ⟨rfl, rfl, by decide, by decide, Nat.le_refl _, Nat.le_refl _⟩ rfl 10 0 rfl rfl rfl (Nat.le_of_ble_eq_true rfl) dX10_quick_32 (fun _ => rfl) (fun r u H locs hq h => ?_)
    obtain rfl := hq
    exact hret _ (bump st 0, D) _ _ _ _ (Or.inr ⟨fun q9 => b2 q9.1, rfl, rfl⟩) h dX10_quick_35
  ·
    refine n_zne hx hb (by decide) (tgt := 29) dX10_quick_5 (by decide) (fun q => absurd q (by decide)) (fun _ => ?_)
    refine lv_iload_n hx hb dX10_quick_8 rfl (lv_at hl 2 rfl) ?_
    refine lv_iconst (v := nI 1) hx hb dX10_quick_9 (by decide) ?_
    refine lv_bipush (v := nI 100) hx hb dX10_quick_10 (by decide) ?_
    refine cS_iE S0 hG hA h hl.1 kw_RX10_49 kdS_X10_isOutside (c_X10_isOutside) ⟨rfl, rfl, by decide, by decide, Nat.le_refl _, Nat.le_refl _⟩ rfl rfl (Nat.le_of_ble_eq_true rfl) dX10_quick_12 (fun r u H locs hq h => ?_)
    have hq : (r = nI 1 ∧ ¬ inR y 1 100) ∨ (r = nI 0 ∧ inR y 1 100) := hq
    rcases hq with ⟨rfl, b12⟩ | ⟨rfl, b12⟩
    ·
      refine n_zne hx hb (by decide) (tgt := 29) dX10_quick_15 (by decide) (fun _ => ?_) (fun q => absurd q (by decide))
      refine lv_aload_n hx hb dX10_quick_29 rfl (lv_at hl 0 rfl) ?_
      refine lv_ldc (v := -1000000001) hx hb S0.2.2.2.1 (S0.2.2.2.2 _ (rin6 _ (List.mem_of_getElem? (i := 6) rfl))) dX10_quick_30 ?_
      refine cV_i0 S0 hG hA h hl.1 kw_RX10_58 kdV_X10_tell (c_X10_tell (k := 0) (by decide) (by decide)) ⟨rfl, rfl, by decide, by decide, Nat.le_refl _, Nat.le_refl _⟩ rfl 10 0 rfl rfl rfl (Nat.le_of_ble_eq_true rfl) dX10_quick_32 (fun _ => rfl) (fun r u H locs hq h => ?_)
      obtain rfl := hq
      exact hret _ (bump st 0, D) _ _ _ _ (Or.inr ⟨fun q9 => b12 q9.2.1, rfl, rfl⟩) h dX10_quick_35
    ·
      refine n_zne hx hb (by decide) (tgt := 29) dX10_quick_15 (by decide) (fun q => absurd q (by decide)) (fun _ => ?_)
      refine lv_iload_n hx hb dX10_quick_18 rfl (lv_at hl 3 rfl) ?_
      refine lv_iconst (v := nI 0) hx hb dX10_quick_19 (by decide) ?_
      refine lv_sipush (v := nI 9999) hx hb dX10_quick_20 (by decide) ?_
      refine cS_iE S0 hG hA h hl.1 kw_RX10_49 kdS_X10_isOutside (c_X10_isOutside) ⟨rfl, rfl, by decide, by decide, Nat.le_refl _, Nat.le_refl _⟩ rfl rfl (Nat.le_of_ble_eq_true rfl) dX10_quick_23 (fun r u H locs hq h => ?_)
      have hq : (r = nI 1 ∧ ¬ inR z 0 9999) ∨ (r = nI 0 ∧ inR z 0 9999) := hq
      rcases hq with ⟨rfl, b23⟩ | ⟨rfl, b23⟩
      ·
        refine n_zeq hx hb (by decide) (tgt := 36) dX10_quick_26 (by decide) (fun q => absurd q (by decide)) (fun _ => ?_)
        refine lv_aload_n hx hb dX10_quick_29 rfl (lv_at hl 0 rfl) ?_
        refine lv_ldc (v := -1000000001) hx hb S0.2.2.2.1 (S0.2.2.2.2 _ (rin6 _ (List.mem_of_getElem? (i := 6) rfl))) dX10_quick_30 ?_
        refine cV_i0 S0 hG hA h hl.1 kw_RX10_58 kdV_X10_tell (c_X10_tell (k := 0) (by decide) (by decide)) ⟨rfl, rfl, by decide, by decide, Nat.le_refl _, Nat.le_refl _⟩ rfl 10 0 rfl rfl rfl (Nat.le_of_ble_eq_true rfl) dX10_quick_32 (fun _ => rfl) (fun r u H locs hq h => ?_)
        obtain rfl := hq
        exact hret _ (bump st 0, D) _ _ _ _ (Or.inr ⟨fun q9 => b23 q9.2.2, rfl, rfl⟩) h dX10_quick_35
      ·
        obtain ⟨jx, rfl, jx1, jx2⟩ := inR_nat (hi := (f 1 : Int) - 1) b2
        obtain ⟨jy, rfl, jy1, jy2⟩ := inR_nat ⟨by have := b12.1; omega, b12.2⟩
        have jy0 := (inR_n (by omega)).mp b12
        obtain ⟨jz, rfl, jz1, jz2⟩ := inR_nat b23
        refine n_zeq hx hb (by decide) (tgt := 36) dX10_quick_26 (by decide) (fun _ => ?_) (fun q => absurd q (by decide))
        refine lv_iconst (v := nI 1) hx hb dX10_quick_36 (by decide) ?_
        refine lv_istore hx hb dX10_quick_37 hl (by decide) rfl (fun ls hl => ?_)
        have lp39 : ∀ (kf : Nat) (k : Nat) (d1 : Row × JF) (H : Heap) (locs : List Loc) (ls : Array Slot) (hk1 : 1 ≤ k ∧ k ≤ 5) (hq9 : ∀ j, 1 ≤ j → j < k → ¬ qOk f jx jy jz j), 5 - k < kf → WX G A s H locs (wC G o f st tb tn nu bi si kp g (D.1, d1, D.2.2)) → lv_has ls 5 [(0, .ref (o 0)), (1, .int (nI jx)), (2, .int (nI jy)), (3, .int (nI jz)), (4, .int (nI k))] → W p l e (RM 7 135) s m args below meth c H locs 0 0 Q (F0 m 39 ls []) := by
          intro kf
          induction kf with
          | zero => intro k d1 H locs ls hk1 hq9 hm; exact absurd hm (Nat.not_lt_zero _)
          | succ kf ih39 =>
            intro k d1 H locs ls hk1 hq9 hm h hl
            refine lv_iload hx hb dX10_quick_39 (lv_at hl 4 rfl) ?_
            refine lv_iconst (v := nI 4) hx hb dX10_quick_41 (by decide) ?_
            refine n_cgt hx hb (by omega) (by omega) (tgt := 97) dX10_quick_42 (by decide) (fun c42 => ?_) (fun c42 => ?_)
            ·
              refine lv_aload_n hx hb dX10_quick_97 rfl (lv_at hl 0 rfl) ?_
              refine lv_ldc (v := -1000000004) hx hb S0.2.2.2.1 (S0.2.2.2.2 _ (rin24 _ (List.mem_of_getElem? (i := 7) rfl))) dX10_quick_98 ?_
              refine cV_i0 S0 hG hA h hl.1 kw_RX10_58 kdV_X10_tell (c_X10_tell (k := 3) (by decide) (by decide)) ⟨rfl, rfl, by decide, by decide, Nat.le_refl _, Nat.le_refl _⟩ rfl 10 0 rfl rfl rfl (Nat.le_of_ble_eq_true rfl) dX10_quick_100 (fun _ => rfl) (fun r u H locs hq h => ?_)
              obtain rfl := hq
              exact hret _ (bump st 3, (D.1, d1, D.2.2)) _ _ _ _ (Or.inl ⟨⟨b2, b12, b23⟩, by rw [nt_nI jx2, nt_nI jy2, nt_nI jz2]; exact Or.inr ⟨fun j h1 h2 => hq9 j h1 (by omega), rfl, rfl⟩⟩) h dX10_quick_103
            ·
              refine lv_aload_n hx hb dX10_quick_45 rfl (lv_at hl 0 rfl) ?_
              refine gC_trial S0 hG h dX10_quick_46 ?_
              refine lv_aload_n hx hb dX10_quick_49 rfl (lv_at hl 0 rfl) ?_
              refine gC_present S0 hG h dX10_quick_50 ?_
              refine cN_vC (w2 := fun u => wC G o f st tb tn nu bi si kp g (D.1, (f, d1.2), D.2.2)) S0 hG hA h hl.1 (ws_ok (rin22 _ (List.mem_of_getElem? (i := 18) rfl))) (rin2 _ (List.mem_of_getElem? (i := 3) rfl)) (rin22 _ (List.mem_of_getElem? (i := 16) rfl)) (rin22 _ (List.mem_of_getElem? (i := 17) rfl)) (host := "ComposedInterval") (List.mem_of_getElem? (i := 55) rfl) kdS_X3_become (c_X3_become (a := aT o) (b := aP o) (f := d1.1) (q := d1.2.1) (sp := d1.2.2.1) (rg := d1.2.2.2.1) (wd := d1.2.2.2.2.1) (it := d1.2.2.2.2.2) (f2 := f) (q2 := D.1.1) (sp2 := D.1.2.1) (rg2 := D.1.2.2.1) (wd2 := D.1.2.2.2.1) (it2 := D.1.2.2.2.2)) ⟨rfl, rfl, by decide, by decide, Nat.le_refl _, Nat.le_refl _⟩ rfl 3 17 rfl rfl [17, 18, 19, 20, 21, 22, 23, 24, 25, 1, 2, 3, 4, 5, 6, 7, 8, 9] (by decide) rfl rfl rfl (Nat.le_of_ble_eq_true rfl) dX10_quick_53 (fun _ H1 hk hP1 => WX.back h [17, 18, 19, 20, 21, 22, 23, 24, 25, 1, 2, 3, 4, 5, 6, 7, 8, 9] rfl hk hP1 (fit_TP (D := (D.1, d1, D.2.2)))) (fun _ => rfl) (fun u H locs hq h => ?_)
              refine lv_aload_n hx hb dX10_quick_56 rfl (lv_at hl 0 rfl) ?_
              refine gC_trial S0 hG h dX10_quick_57 ?_
              refine kTg_quick S0 hG h dX10_quick_60 ?_
              refine lv_iload_n hx hb dX10_quick_63 rfl (lv_at hl 1 rfl) ?_
              refine lv_iload hx hb dX10_quick_64 (lv_at hl 4 rfl) ?_
              refine kTs_quick S0 hG h (by omega) dX10_quick_66 (fun H locs h => ?_)
              have h : WX G A s H locs (wC G o f st tb tn nu bi si kp g (D.1, ((va_up f (11 + 5 * jx + 2) k), d1.2), D.2.2)) := h
              have e8 : k ≤ 4 := by omega
              have hI9 : Inv (va_up f (11 + 5 * jx + 2) k) := Inv_set (w := 2) hI (by omega) (by simpa [bnd] using e8)
              have h09 : (va_up f (11 + 5 * jx + 2) k) 0 + jy ≤ 200000 := by rw [up_lo (by omega)]; omega
              have hI8 := goF_inv hI9 jy h09
              refine lv_aload_n hx hb dX10_quick_67 rfl (lv_at hl 0 rfl) ?_
              refine gC_trial S0 hG h dX10_quick_68 ?_
              refine lv_iload_n hx hb dX10_quick_71 rfl (lv_at hl 2 rfl) ?_
              refine cN_vC (w2 := fun u => wC G o f st tb tn nu bi si kp g (D.1, (goF (va_up f (11 + 5 * jx + 2) k) jy, u), D.2.2)) S0 hG hA h hl.1 (ws_ok (rin20 _ (List.mem_of_getElem? (i := 20) rfl))) (rin2 _ (List.mem_of_getElem? (i := 3) rfl)) (rin20 _ (List.mem_of_getElem? (i := 18) rfl)) (rin20 _ (List.mem_of_getElem? (i := 19) rfl)) (host := "ComposedInterval") (List.mem_of_getElem? (i := 54) rfl) kdS_X3_go (c_X3_go (a := aT o) (f := (va_up f (11 + 5 * jx + 2) k)) (q := d1.2.1) (sp := d1.2.2.1) (rg := d1.2.2.2.1) (wd := d1.2.2.2.2.1) (it := d1.2.2.2.2.2) hI9 h09) ⟨rfl, rfl, by decide, by decide, Nat.le_refl _, Nat.le_refl _⟩ rfl 3 17 rfl rfl [17, 18, 19, 20, 21, 22, 23, 24, 25, 10, 11, 12, 13, 14, 15, 16] (by decide) rfl rfl rfl (Nat.le_of_ble_eq_true rfl) dX10_quick_72 (fun _ H1 hk hP1 => WX.back h [17, 18, 19, 20, 21, 22, 23, 24, 25, 10, 11, 12, 13, 14, 15, 16] rfl hk hP1 (fit_T (D := (D.1, ((va_up f (11 + 5 * jx + 2) k), d1.2), D.2.2)))) (fun _ => rfl) (fun u H locs hq h => ?_)
              obtain ⟨jg, rfl⟩ : ∃ z9, z9 = u := ⟨u, rfl⟩
              refine lv_aload_n hx hb dX10_quick_75 rfl (lv_at hl 0 rfl) ?_
              refine gC_trial S0 hG h dX10_quick_76 ?_
              refine kTg_played S0 hG h dX10_quick_79 ?_
              refine lv_iload_n hx hb dX10_quick_82 rfl (lv_at hl 1 rfl) ?_
              refine kTr_played S0 hG h (by omega) dX10_quick_83 ?_
              refine tN (t := its (goF (va_up f (11 + 5 * jx + 2) k) jy) _ 3) rfl ?_
              refine lv_iload_n hx hb dX10_quick_84 rfl (lv_at hl 3 rfl) ?_
              refine n_clt hx hb (by have := (hI8.2.2.2.2 jx (by omega)).2.2.2.1; omega) (by have := (hI8.2.2.2.2 jx (by omega)).2.2.2.1; omega) (tgt := 91) dX10_quick_85 (by decide) (fun c85 => ?_) (fun c85 => ?_)
              ·
                refine lv_iinc hx hb dX10_quick_91 hl (k := 4) rfl (inc_1 _) (by decide) rfl (fun ls hl => ?_)
                refine lv_goto (tgt := 39) hx hb dX10_quick_94 (by decide) ?_
                exact ih39 (k + 1) (goF (va_up f (11 + 5 * jx + 2) k) jy, jg) _ _ _ (by omega) (fun j h1 h2 => by by_cases e9 : j = k; rw [e9]; exact Nat.not_le.mpr c85; exact hq9 j h1 (by omega)) (by omega) h (lv_sub hl [1, 2, 3, 4, 0] rfl)
              ·
                refine lv_iload hx hb dX10_quick_88 (lv_at hl 4 rfl) ?_
                exact hret _ (st, (D.1, (goF (va_up f (11 + 5 * jx + 2) k) jy, jg), D.2.2)) _ _ _ _ (Or.inl ⟨⟨b2, b12, b23⟩, by rw [nt_nI jx2, nt_nI jy2, nt_nI jz2]; exact Or.inl ⟨k, by omega, by omega, hq9, c85, rfl, rfl⟩⟩) h dX10_quick_90
        exact lp39 _ 1 D.2.1 _ _ _ (by omega) (fun j h1 h2 => absurd h2 (by omega)) (Nat.lt_succ_self _) h (lv_sub hl [1, 2, 3, 4, 0] rfl)
