variable {G : GT} {l : Launch} {o : Nat → Nat} {f st tb : Row} {tn : Nat} {nu : Nat → Int64} {bi si : Row} {kp : Nat} {g : Row} {D : DT}
set_option maxHeartbeats 4000000 in
set_option maxRecDepth 100000 in
theorem c_X10_book {x y : Int32} (hI : Inv f) (h0 : f 0 ≤ 99999) (hSh : ShI bi si) : Ki G l yX10_book cX10_book 5 (some .int) (RM 6 113) [.ref (o 0), .int x, .int y] (wC G o f st tb tn nu bi si kp g D) (fun u : (Nat → Int64) × Row × DT => wC G o f u.2.1 tb tn u.1 bi si kp g u.2.2) (fun r u => P_book f bi si nu st x y r u.1 u.2.1) := by
  refine Ki.of (by decide) (Nat.le_of_ble_eq_true rfl) ?_
  intro p e s m args below meth c A Q ls hx hb S0 hG hA h hret hl
  have S0 : CF p m c cX10_book 5 s args RX10 := S0
  have hl : lv_has ls 5 [(0, .ref (o 0)), (1, .int x), (2, .int y)] := hl
  have h8 := hI.2.1
  refine lv_aload_n hx hb dX10_book_0 rfl (lv_at hl 0 rfl) ?_
  refine lv_iload_n hx hb dX10_book_1 rfl (lv_at hl 1 rfl) ?_
  refine cV_i0 S0 hG hA h hl.1 kw_RX10_194 kdV_X10_sheetFinding (c_X10_sheetFinding hSh) ⟨rfl, rfl, by decide, by decide, Nat.le_refl _, Nat.le_refl _⟩ rfl 10 0 rfl rfl rfl (Nat.le_of_ble_eq_true rfl) dX10_book_2 (fun _ => rfl) (fun r u H locs hq h => ?_)
  rcases hq with ⟨rfl, b2⟩ | ⟨rfl, b2, m2⟩ | ⟨rfl, b2, m2⟩
  ·
    refine lv_istore_n hx hb dX10_book_5 rfl hl (by decide) rfl (fun ls hl => ?_)
    refine lv_iload_n hx hb dX10_book_6 rfl (lv_at hl 0 rfl) ?_
    refine lv_if_eq hx hb (tgt := 16) dX10_book_7 (by decide) (fun c7 => absurd c7 (by decide)) (fun c7 => ?_)
    refine lv_aload_n hx hb dX10_book_10 rfl (lv_at hl 1 rfl) ?_
    refine lv_iload_n hx hb dX10_book_11 rfl (lv_at hl 0 rfl) ?_
    refine cV_i0 S0 hG hA h hl.1 kw_RX10_58 kdV_X10_tell (c_X10_tell (k := 0) (by decide) (by decide)) ⟨rfl, rfl, by decide, by decide, Nat.le_refl _, Nat.le_refl _⟩ rfl 10 0 rfl rfl rfl (Nat.le_of_ble_eq_true rfl) dX10_book_12 (fun _ => rfl) (fun r u H locs hq h => ?_)
    obtain rfl := hq
    exact hret _ (nu, bump st 0, D) _ _ _ _ (Or.inl ⟨b2, rfl, rfl, rfl⟩) h dX10_book_15
  ·
    refine lv_istore_n hx hb dX10_book_5 rfl hl (by decide) rfl (fun ls hl => ?_)
    refine lv_iload_n hx hb dX10_book_6 rfl (lv_at hl 0 rfl) ?_
    refine lv_if_eq hx hb (tgt := 16) dX10_book_7 (by decide) (fun c7 => absurd c7 (by decide)) (fun c7 => ?_)
    refine lv_aload_n hx hb dX10_book_10 rfl (lv_at hl 1 rfl) ?_
    refine lv_iload_n hx hb dX10_book_11 rfl (lv_at hl 0 rfl) ?_
    refine cV_i0 S0 hG hA h hl.1 kw_RX10_58 kdV_X10_tell (c_X10_tell (k := 5) (by decide) (by decide)) ⟨rfl, rfl, by decide, by decide, Nat.le_refl _, Nat.le_refl _⟩ rfl 10 0 rfl rfl rfl (Nat.le_of_ble_eq_true rfl) dX10_book_12 (fun _ => rfl) (fun r u H locs hq h => ?_)
    obtain rfl := hq
    exact hret _ (nu, bump st 5, D) _ _ _ _ (Or.inr (Or.inl ⟨⟨b2, m2⟩, rfl, rfl, rfl⟩)) h dX10_book_15
  ·
    obtain ⟨jx, rfl, jx1, jx2⟩ := inR_nat b2
    rw [nt_nI jx2] at m2
    have s9 := hSh jx (by omega)
    refine lv_istore_n hx hb dX10_book_5 rfl hl (by decide) rfl (fun ls hl => ?_)
    refine lv_iload_n hx hb dX10_book_6 rfl (lv_at hl 0 rfl) ?_
    refine n_zeq hx hb (by decide) (tgt := 16) dX10_book_7 (by decide) (fun _ => ?_) (fun q => absurd q (by decide))
    refine lv_aload_n hx hb dX10_book_16 rfl (lv_at hl 1 rfl) ?_
    refine lv_iload_n hx hb dX10_book_17 rfl (lv_at hl 3 rfl) ?_
    refine cV_i0 S0 hG hA h hl.1 kw_RX10_106 kdV_X10_isNobody (c_X10_isNobody hI.2.1) ⟨rfl, rfl, by decide, by decide, Nat.le_refl _, Nat.le_refl _⟩ rfl 10 0 rfl rfl rfl (Nat.le_of_ble_eq_true rfl) dX10_book_18 (fun _ => rfl) (fun r u H locs hq h => ?_)
    rcases hq with ⟨rfl, b18⟩ | ⟨rfl, b18⟩
    ·
      refine n_zeq hx hb (by decide) (tgt := 31) dX10_book_21 (by decide) (fun q => absurd q (by decide)) (fun _ => ?_)
      refine lv_aload_n hx hb dX10_book_24 rfl (lv_at hl 1 rfl) ?_
      refine lv_ldc (v := -1000000001) hx hb S0.2.2.2.1 (S0.2.2.2.2 _ (rin6 _ (List.mem_of_getElem? (i := 6) rfl))) dX10_book_25 ?_
      refine cV_i0 S0 hG hA h hl.1 kw_RX10_58 kdV_X10_tell (c_X10_tell (k := 0) (by decide) (by decide)) ⟨rfl, rfl, by decide, by decide, Nat.le_refl _, Nat.le_refl _⟩ rfl 10 0 rfl rfl rfl (Nat.le_of_ble_eq_true rfl) dX10_book_27 (fun _ => rfl) (fun r u H locs hq h => ?_)
      obtain rfl := hq
      exact hret _ (nu, bump st 0, D) _ _ _ _ (Or.inr (Or.inr ⟨⟨b2, by rw [nt_nI jx2]; exact m2⟩, Or.inr ⟨b18, rfl, rfl, rfl⟩⟩)) h dX10_book_30
    ·
      obtain ⟨jy, rfl, jy1, jy2⟩ := inR_nat (hi := (f 1 : Int) - 1) b18
      refine n_zeq hx hb (by decide) (tgt := 31) dX10_book_21 (by decide) (fun _ => ?_) (fun q => absurd q (by decide))
      refine lv_aload_n hx hb dX10_book_31 rfl (lv_at hl 1 rfl) ?_
      refine gC_trial S0 hG h dX10_book_32 ?_
      refine lv_aload_n hx hb dX10_book_35 rfl (lv_at hl 1 rfl) ?_
      refine gC_present S0 hG h dX10_book_36 ?_
      refine cN_vC (w2 := fun u => wC G o f st tb tn nu bi si kp g (D.1, (f, D.2.1.2), D.2.2)) S0 hG hA h hl.1 (ws_ok (rin22 _ (List.mem_of_getElem? (i := 18) rfl))) (rin2 _ (List.mem_of_getElem? (i := 3) rfl)) (rin22 _ (List.mem_of_getElem? (i := 16) rfl)) (rin22 _ (List.mem_of_getElem? (i := 17) rfl)) (host := "ComposedInterval") (List.mem_of_getElem? (i := 55) rfl) kdS_X3_become (c_X3_become (a := aT o) (b := aP o) (f := D.2.1.1) (q := D.2.1.2.1) (sp := D.2.1.2.2.1) (rg := D.2.1.2.2.2.1) (wd := D.2.1.2.2.2.2.1) (it := D.2.1.2.2.2.2.2) (f2 := f) (q2 := D.1.1) (sp2 := D.1.2.1) (rg2 := D.1.2.2.1) (wd2 := D.1.2.2.2.1) (it2 := D.1.2.2.2.2)) ⟨rfl, rfl, by decide, by decide, Nat.le_refl _, Nat.le_refl _⟩ rfl 3 17 rfl rfl [17, 18, 19, 20, 21, 22, 23, 24, 25, 1, 2, 3, 4, 5, 6, 7, 8, 9] (by decide) rfl rfl rfl (Nat.le_of_ble_eq_true rfl) dX10_book_39 (fun _ H1 hk hP1 => WX.back h [17, 18, 19, 20, 21, 22, 23, 24, 25, 1, 2, 3, 4, 5, 6, 7, 8, 9] rfl hk hP1 (fit_TP (D := D))) (fun _ => rfl) (fun u H locs hq h => ?_)
      refine lv_iconst (v := nI 0) hx hb dX10_book_42 (by decide) ?_
      refine lv_istore hx hb dX10_book_43 hl (by decide) rfl (fun ls hl => ?_)
      have lp45 : ∀ (kf : Nat) (i : Nat) (j1 : JF) (H : Heap) (locs : List Loc) (ls : Array Slot) (hi : i ≤ si jx), si jx - i < kf → WX G A s H locs (wC G o f st tb tn (bkN f nu jx jy i) bi si kp g (D.1, (goF f i, j1), D.2.2)) → lv_has ls 5 [(0, .ref (o 0)), (1, .int (nI jx)), (2, .int (nI jy)), (4, .int (nI i))] → W p l e (RM 6 113) s m args below meth c H locs 0 0 Q (F0 m 45 ls []) := by
        intro kf
        induction kf with
        | zero => intro i j1 H locs ls hi hm; exact absurd hm (Nat.not_lt_zero _)
        | succ kf ih45 =>
          intro i j1 H locs ls hi hm h hl
          have hI9 := goF_inv hI i (by omega)
          have h09 := goF_0 f i
          refine lv_iload hx hb dX10_book_45 (lv_at hl 3 rfl) ?_
          refine lv_aload_n hx hb dX10_book_47 rfl (lv_at hl 0 rfl) ?_
          refine gC_sheets S0 hG h dX10_book_48 ?_
          refine lv_iload_n hx hb dX10_book_51 rfl (lv_at hl 1 rfl) ?_
          refine aC_sheets S0 hG h (by omega) dX10_book_52 ?_
          refine gSh_size (x := jx) (by omega) S0 hG h dX10_book_53 ?_
          refine n_cge hx hb (by omega) (by omega) (tgt := 94) dX10_book_56 (by decide) (fun c56 => ?_) (fun c56 => ?_)
          ·
            refine lv_aload_n hx hb dX10_book_94 rfl (lv_at hl 0 rfl) ?_
            refine gC_sheets S0 hG h dX10_book_95 ?_
            refine lv_iload_n hx hb dX10_book_98 rfl (lv_at hl 1 rfl) ?_
            refine aC_sheets S0 hG h (by omega) dX10_book_99 ?_
            refine gSh_size (x := jx) (by omega) S0 hG h dX10_book_100 ?_
            obtain rfl : i = si jx := by omega
            exact hret _ (bkN f nu jx jy (si jx), st, (D.1, (goF f (si jx), j1), D.2.2)) _ _ _ _ (Or.inr (Or.inr ⟨⟨b2, by rw [nt_nI jx2]; exact m2⟩, Or.inl ⟨b18, by rw [nt_nI jx2], by rw [nt_nI jx2, nt_nI jy2], rfl⟩⟩)) h dX10_book_103
          ·
            refine lv_aload_n hx hb dX10_book_59 rfl (lv_at hl 0 rfl) ?_
            refine gC_sheets S0 hG h dX10_book_60 ?_
            refine lv_iload_n hx hb dX10_book_63 rfl (lv_at hl 1 rfl) ?_
            refine aC_sheets S0 hG h (by omega) dX10_book_64 ?_
            refine gSh_numbers (x := jx) (by omega) S0 hG h dX10_book_65 ?_
            refine lv_iload hx hb dX10_book_68 (lv_at hl 3 rfl) ?_
            refine lv_aload_n hx hb dX10_book_70 rfl (lv_at hl 0 rfl) ?_
            refine gC_trial S0 hG h dX10_book_71 ?_
            refine kTg_at S0 hG h dX10_book_74 ?_
            refine lv_iload_n hx hb dX10_book_77 rfl (lv_at hl 2 rfl) ?_
            refine kTr_at S0 hG h (by omega) dX10_book_78 ?_
            refine tN (t := its (goF f i) _ 1) rfl ?_
            refine lv_i2l hx hb dX10_book_79 rfl ?_
            refine sSh_numbers (by omega) S0 hG h (by omega) dX10_book_80 (fun H locs h => ?_)
            have h : WX G A s H locs (wC G o f st tb tn (bkN f nu jx jy (i + 1)) bi si kp g (D.1, (goF f i, j1), D.2.2)) := h
            refine lv_aload_n hx hb dX10_book_81 rfl (lv_at hl 0 rfl) ?_
            refine gC_trial S0 hG h dX10_book_82 ?_
            refine cN_vC (w2 := fun u => wC G o f st tb tn (bkN f nu jx jy (i + 1)) bi si kp g (D.1, (minF (goF f i), u), D.2.2)) S0 hG hA h hl.1 (ws_ok (rin21 _ (List.mem_of_getElem? (i := 0) rfl))) (rin2 _ (List.mem_of_getElem? (i := 3) rfl)) (rin20 _ (List.mem_of_getElem? (i := 22) rfl)) (rin20 _ (List.mem_of_getElem? (i := 23) rfl)) (host := "ComposedInterval") (List.mem_of_getElem? (i := 56) rfl) kdS_X3_passMinute (c_X3_passMinute (a := aT o) (f := (goF f i)) (q := j1.1) (sp := j1.2.1) (rg := j1.2.2.1) (wd := j1.2.2.2.1) (it := j1.2.2.2.2) hI9 (by omega)) ⟨rfl, rfl, by decide, by decide, Nat.le_refl _, Nat.le_refl _⟩ rfl 3 17 rfl rfl [17, 18, 19, 20, 21, 22, 23, 24, 25, 10, 11, 12, 13, 14, 15, 16] (by decide) rfl rfl rfl (Nat.le_of_ble_eq_true rfl) dX10_book_85 (fun _ H1 hk hP1 => WX.back h [17, 18, 19, 20, 21, 22, 23, 24, 25, 10, 11, 12, 13, 14, 15, 16] rfl hk hP1 (fit_T (D := (D.1, ((goF f i), j1), D.2.2)))) (fun _ => rfl) (fun u H locs hq h => ?_)
            obtain ⟨jg, rfl⟩ : ∃ z9, z9 = u := ⟨u, rfl⟩
            refine lv_iinc hx hb dX10_book_88 hl (k := 3) rfl (inc_1 _) (by decide) rfl (fun ls hl => ?_)
            refine lv_goto (tgt := 45) hx hb dX10_book_91 (by decide) ?_
            exact ih45 (i + 1) jg _ _ _ (by omega) (by omega) h (lv_sub hl [1, 2, 3, 0] rfl)
      exact lp45 _ 0 D.2.1.2 _ _ _ (Nat.zero_le _) (Nat.lt_succ_self _) h (lv_sub hl [2, 3, 4, 0] rfl)
