variable {G : GT} {l : Launch} {o : Nat → Nat} {f st tb : Row} {tn : Nat} {nu : Nat → Int64} {bi si : Row} {kp : Nat} {g : Row} {D : DT}
set_option maxHeartbeats 4000000 in
set_option maxRecDepth 100000 in
theorem c_X10_meet {x y : Int32} (hI : Inv f) (h0 : f 0 ≤ 99999) : Ki G l yX10_meet cX10_meet 4 (some .int) (RM 6 113) [.ref (o 0), .int x, .int y] (wC G o f st tb tn nu bi si kp g D) (fun u : Row × DT => wC G o f u.1 tb tn nu bi si kp g u.2) (fun r u => P_meet f st x y r u.1) := by
  refine Ki.of (by decide) (Nat.le_of_ble_eq_true rfl) ?_
  intro p e s m args below meth c A Q ls hx hb S0 hG hA h hret hl
  have S0 : CF p m c cX10_meet 4 s args RX10 := S0
  have hl : lv_has ls 4 [(0, .ref (o 0)), (1, .int x), (2, .int y)] := hl
  have h8 := hI.2.1
  refine lv_aload_n hx hb dX10_meet_0 rfl (lv_at hl 0 rfl) ?_
  refine lv_iload_n hx hb dX10_meet_1 rfl (lv_at hl 1 rfl) ?_
  refine cV_i0 S0 hG hA h hl.1 kw_RX10_106 kdV_X10_isNobody (c_X10_isNobody hI.2.1) ⟨rfl, rfl, by decide, by decide, Nat.le_refl _, Nat.le_refl _⟩ rfl 10 0 rfl rfl rfl (Nat.le_of_ble_eq_true rfl) dX10_meet_2 (fun _ => rfl) (fun r u H locs hq h => ?_)
  rcases hq with ⟨rfl, b2⟩ | ⟨rfl, b2⟩
  ·
    refine n_zne hx hb (by decide) (tgt := 21) dX10_meet_5 (by decide) (fun _ => ?_) (fun q => absurd q (by decide))
    refine lv_aload_n hx hb dX10_meet_21 rfl (lv_at hl 0 rfl) ?_
    refine lv_ldc (v := -1000000001) hx hb S0.2.2.2.1 (S0.2.2.2.2 _ (rin6 _ (List.mem_of_getElem? (i := 6) rfl))) dX10_meet_22 ?_
    refine cV_i0 S0 hG hA h hl.1 kw_RX10_58 kdV_X10_tell (c_X10_tell (k := 0) (by decide) (by decide)) ⟨rfl, rfl, by decide, by decide, Nat.le_refl _, Nat.le_refl _⟩ rfl 10 0 rfl rfl rfl (Nat.le_of_ble_eq_true rfl) dX10_meet_24 (fun _ => rfl) (fun r u H locs hq h => ?_)
    obtain rfl := hq
    exact hret _ (bump st 0, D) _ _ _ _ (Or.inr ⟨fun q9 => b2 q9.1, rfl, rfl⟩) h dX10_meet_27
  ·
    refine n_zne hx hb (by decide) (tgt := 21) dX10_meet_5 (by decide) (fun q => absurd q (by decide)) (fun _ => ?_)
    refine lv_aload_n hx hb dX10_meet_8 rfl (lv_at hl 0 rfl) ?_
    refine lv_iload_n hx hb dX10_meet_9 rfl (lv_at hl 2 rfl) ?_
    refine cV_i0 S0 hG hA h hl.1 kw_RX10_106 kdV_X10_isNobody (c_X10_isNobody hI.2.1) ⟨rfl, rfl, by decide, by decide, Nat.le_refl _, Nat.le_refl _⟩ rfl 10 0 rfl rfl rfl (Nat.le_of_ble_eq_true rfl) dX10_meet_10 (fun _ => rfl) (fun r u H locs hq h => ?_)
    rcases hq with ⟨rfl, b10⟩ | ⟨rfl, b10⟩
    ·
      refine n_zne hx hb (by decide) (tgt := 21) dX10_meet_13 (by decide) (fun _ => ?_) (fun q => absurd q (by decide))
      refine lv_aload_n hx hb dX10_meet_21 rfl (lv_at hl 0 rfl) ?_
      refine lv_ldc (v := -1000000001) hx hb S0.2.2.2.1 (S0.2.2.2.2 _ (rin6 _ (List.mem_of_getElem? (i := 6) rfl))) dX10_meet_22 ?_
      refine cV_i0 S0 hG hA h hl.1 kw_RX10_58 kdV_X10_tell (c_X10_tell (k := 0) (by decide) (by decide)) ⟨rfl, rfl, by decide, by decide, Nat.le_refl _, Nat.le_refl _⟩ rfl 10 0 rfl rfl rfl (Nat.le_of_ble_eq_true rfl) dX10_meet_24 (fun _ => rfl) (fun r u H locs hq h => ?_)
      obtain rfl := hq
      exact hret _ (bump st 0, D) _ _ _ _ (Or.inr ⟨fun q9 => b10 q9.2.1, rfl, rfl⟩) h dX10_meet_27
    ·
      refine n_zne hx hb (by decide) (tgt := 21) dX10_meet_13 (by decide) (fun q => absurd q (by decide)) (fun _ => ?_)
      refine lv_iload_n hx hb dX10_meet_16 rfl (lv_at hl 1 rfl) ?_
      refine lv_iload_n hx hb dX10_meet_17 rfl (lv_at hl 2 rfl) ?_
      refine lv_icmp_ne hx hb (tgt := 28) dX10_meet_18 (by decide) (fun c18 => ?_) (fun c18 => ?_)
      ·
        obtain ⟨jx, rfl, jx1, jx2⟩ := inR_nat (hi := (f 1 : Int) - 1) b2
        obtain ⟨jy, rfl, jy1, jy2⟩ := inR_nat (hi := (f 1 : Int) - 1) b10
        refine lv_aload_n hx hb dX10_meet_28 rfl (lv_at hl 0 rfl) ?_
        refine gC_trial S0 hG h dX10_meet_29 ?_
        refine lv_aload_n hx hb dX10_meet_32 rfl (lv_at hl 0 rfl) ?_
        refine gC_present S0 hG h dX10_meet_33 ?_
        refine cN_vC (w2 := fun u => wC G o f st tb tn nu bi si kp g (D.1, (f, D.2.1.2), D.2.2)) S0 hG hA h hl.1 (ws_ok (rin22 _ (List.mem_of_getElem? (i := 18) rfl))) (rin2 _ (List.mem_of_getElem? (i := 3) rfl)) (rin22 _ (List.mem_of_getElem? (i := 16) rfl)) (rin22 _ (List.mem_of_getElem? (i := 17) rfl)) (host := "ComposedInterval") (List.mem_of_getElem? (i := 55) rfl) kdS_X3_become (c_X3_become (a := aT o) (b := aP o) (f := D.2.1.1) (q := D.2.1.2.1) (sp := D.2.1.2.2.1) (rg := D.2.1.2.2.2.1) (wd := D.2.1.2.2.2.2.1) (it := D.2.1.2.2.2.2.2) (f2 := f) (q2 := D.1.1) (sp2 := D.1.2.1) (rg2 := D.1.2.2.1) (wd2 := D.1.2.2.2.1) (it2 := D.1.2.2.2.2)) ⟨rfl, rfl, by decide, by decide, Nat.le_refl _, Nat.le_refl _⟩ rfl 3 17 rfl rfl [17, 18, 19, 20, 21, 22, 23, 24, 25, 1, 2, 3, 4, 5, 6, 7, 8, 9] (by decide) rfl rfl rfl (Nat.le_of_ble_eq_true rfl) dX10_meet_36 (fun _ H1 hk hP1 => WX.back h [17, 18, 19, 20, 21, 22, 23, 24, 25, 1, 2, 3, 4, 5, 6, 7, 8, 9] rfl hk hP1 (fit_TP (D := D))) (fun _ => rfl) (fun u H locs hq h => ?_)
        refine lv_iconst (v := nI 0) hx hb dX10_meet_39 (by decide) ?_
        refine lv_istore_n hx hb dX10_meet_40 rfl hl (by decide) rfl (fun ls hl => ?_)
        have lp41 : ∀ (kf : Nat) (n : Nat) (j1 : JF) (H : Heap) (locs : List Loc) (ls : Array Slot) (hn : n ≤ 301) (hc : ∀ i, i < n → ¬ its (goF f i) jx 1 = its (goF f i) jy 1), 301 - n < kf → WX G A s H locs (wC G o f st tb tn nu bi si kp g (D.1, (goF f n, j1), D.2.2)) → lv_has ls 4 [(0, .ref (o 0)), (1, .int (nI jx)), (2, .int (nI jy)), (3, .int (nI n))] → W p l e (RM 6 113) s m args below meth c H locs 0 0 Q (F0 m 41 ls []) := by
          intro kf
          induction kf with
          | zero => intro n j1 H locs ls hn hc hm; exact absurd hm (Nat.not_lt_zero _)
          | succ kf ih41 =>
            intro n j1 H locs ls hn hc hm h hl
            have hI9 := goF_inv hI n (by omega)
            have h09 := goF_0 f n
            refine lv_iload_n hx hb dX10_meet_41 rfl (lv_at hl 3 rfl) ?_
            refine lv_sipush (v := nI 300) hx hb dX10_meet_42 (by decide) ?_
            refine n_cgt hx hb (by omega) (by omega) (tgt := 84) dX10_meet_45 (by decide) (fun c45 => ?_) (fun c45 => ?_)
            ·
              refine lv_aload_n hx hb dX10_meet_84 rfl (lv_at hl 0 rfl) ?_
              refine lv_ldc (v := -1000000004) hx hb S0.2.2.2.1 (S0.2.2.2.2 _ (rin24 _ (List.mem_of_getElem? (i := 7) rfl))) dX10_meet_85 ?_
              refine cV_i0 S0 hG hA h hl.1 kw_RX10_58 kdV_X10_tell (c_X10_tell (k := 3) (by decide) (by decide)) ⟨rfl, rfl, by decide, by decide, Nat.le_refl _, Nat.le_refl _⟩ rfl 10 0 rfl rfl rfl (Nat.le_of_ble_eq_true rfl) dX10_meet_87 (fun _ => rfl) (fun r u H locs hq h => ?_)
              obtain rfl := hq
              exact hret _ (bump st 3, (D.1, (goF f n, j1), D.2.2)) _ _ _ _ (Or.inl ⟨⟨b2, b10, c18⟩, by rw [nt_nI jx2, nt_nI jy2]; exact ⟨n, ⟨hn, hc, fun q9 => absurd q9 (by omega)⟩, Or.inr ⟨by omega, rfl, rfl⟩⟩⟩) h dX10_meet_90
            ·
              refine lv_aload_n hx hb dX10_meet_48 rfl (lv_at hl 0 rfl) ?_
              refine gC_trial S0 hG h dX10_meet_49 ?_
              refine kTg_at S0 hG h dX10_meet_52 ?_
              refine lv_iload_n hx hb dX10_meet_55 rfl (lv_at hl 1 rfl) ?_
              refine kTr_at S0 hG h (by omega) dX10_meet_56 ?_
              refine tN (t := its (goF f n) _ 1) rfl ?_
              refine lv_aload_n hx hb dX10_meet_57 rfl (lv_at hl 0 rfl) ?_
              refine gC_trial S0 hG h dX10_meet_58 ?_
              refine kTg_at S0 hG h dX10_meet_61 ?_
              refine lv_iload_n hx hb dX10_meet_64 rfl (lv_at hl 2 rfl) ?_
              refine kTr_at S0 hG h (by omega) dX10_meet_65 ?_
              refine tN (t := its (goF f n) _ 1) rfl ?_
              refine n_cne hx hb (by have := (hI9.2.2.2.2 jx (by omega)).2.1; have := (hI9.2.2.2.2 jy (by omega)).2.1; omega) (by have := (hI9.2.2.2.2 jx (by omega)).2.1; have := (hI9.2.2.2.2 jy (by omega)).2.1; omega) (tgt := 71) dX10_meet_66 (by decide) (fun c66 => ?_) (fun c66 => ?_)
              ·
                refine lv_aload_n hx hb dX10_meet_71 rfl (lv_at hl 0 rfl) ?_
                refine gC_trial S0 hG h dX10_meet_72 ?_
                refine cN_vC (w2 := fun u => wC G o f st tb tn nu bi si kp g (D.1, (minF (goF f n), u), D.2.2)) S0 hG hA h hl.1 (ws_ok (rin21 _ (List.mem_of_getElem? (i := 0) rfl))) (rin2 _ (List.mem_of_getElem? (i := 3) rfl)) (rin20 _ (List.mem_of_getElem? (i := 22) rfl)) (rin20 _ (List.mem_of_getElem? (i := 23) rfl)) (host := "ComposedInterval") (List.mem_of_getElem? (i := 56) rfl) kdS_X3_passMinute (c_X3_passMinute (a := aT o) (f := (goF f n)) (q := j1.1) (sp := j1.2.1) (rg := j1.2.2.1) (wd := j1.2.2.2.1) (it := j1.2.2.2.2) hI9 (by omega)) ⟨rfl, rfl, by decide, by decide, Nat.le_refl _, Nat.le_refl _⟩ rfl 3 17 rfl rfl [17, 18, 19, 20, 21, 22, 23, 24, 25, 10, 11, 12, 13, 14, 15, 16] (by decide) rfl rfl rfl (Nat.le_of_ble_eq_true rfl) dX10_meet_75 (fun _ H1 hk hP1 => WX.back h [17, 18, 19, 20, 21, 22, 23, 24, 25, 10, 11, 12, 13, 14, 15, 16] rfl hk hP1 (fit_T (D := (D.1, ((goF f n), j1), D.2.2)))) (fun _ => rfl) (fun u H locs hq h => ?_)
                obtain ⟨jg, rfl⟩ : ∃ z9, z9 = u := ⟨u, rfl⟩
                refine lv_iinc hx hb dX10_meet_78 hl (k := 3) rfl (inc_1 _) (by decide) rfl (fun ls hl => ?_)
                refine lv_goto (tgt := 41) hx hb dX10_meet_81 (by decide) ?_
                exact ih41 (n + 1) jg _ _ _ (by omega) (fun i hi => by by_cases e9 : i = n; rw [e9]; exact c66; exact hc i (by omega)) (by omega) h (lv_sub hl [1, 2, 3, 0] rfl)
              ·
                refine lv_iload_n hx hb dX10_meet_69 rfl (lv_at hl 3 rfl) ?_
                exact hret _ (st, (D.1, (goF f n, j1), D.2.2)) _ _ _ _ (Or.inl ⟨⟨b2, b10, c18⟩, by rw [nt_nI jx2, nt_nI jy2]; exact ⟨n, ⟨by omega, hc, fun _ => c66⟩, Or.inl ⟨by omega, rfl, rfl⟩⟩⟩) h dX10_meet_70
        exact lp41 _ 0 D.2.1.2 _ _ _ (by omega) (fun i hi => absurd hi (by omega)) (Nat.lt_succ_self _) h (lv_sub hl [1, 2, 3, 0] rfl)
      ·
        refine lv_aload_n hx hb dX10_meet_21 rfl (lv_at hl 0 rfl) ?_
        refine lv_ldc (v := -1000000001) hx hb S0.2.2.2.1 (S0.2.2.2.2 _ (rin6 _ (List.mem_of_getElem? (i := 6) rfl))) dX10_meet_22 ?_
        refine cV_i0 S0 hG hA h hl.1 kw_RX10_58 kdV_X10_tell (c_X10_tell (k := 0) (by decide) (by decide)) ⟨rfl, rfl, by decide, by decide, Nat.le_refl _, Nat.le_refl _⟩ rfl 10 0 rfl rfl rfl (Nat.le_of_ble_eq_true rfl) dX10_meet_24 (fun _ => rfl) (fun r u H locs hq h => ?_)
        obtain rfl := hq
        exact hret _ (bump st 0, D) _ _ _ _ (Or.inr ⟨fun q9 => q9.2.2 c18, rfl, rfl⟩) h dX10_meet_27
