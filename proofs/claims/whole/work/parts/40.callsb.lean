variable {G : GT} {l : Launch} {o : Nat → Nat} {f st tb : Row} {tn : Nat} {nu : Nat → Int64} {bi si : Row} {kp : Nat} {g : Row} {D : DT}
set_option maxHeartbeats 4000000 in
set_option maxRecDepth 100000 in
theorem c_X10_on {x y z : Int32} (hI : Inv f) (h0 : f 0 ≤ 99999) : Ki G l yX10_on cX10_on 4 (some .int) (RM 7 135) [.ref (o 0), .int x, .int y, .int z] (wC G o f st tb tn nu bi si kp g D) (fun u : Row × DT => wC G o f u.1 tb tn nu bi si kp g u.2) (fun r u => P_on f st x y z r u.1) := by
  refine Ki.of (by decide) (Nat.le_of_ble_eq_true rfl) ?_
  intro p e s m args below meth c A Q ls hx hb S0 hG hA h hret hl
  have S0 : CF p m c cX10_on 4 s args RX10 := S0
  have hl : lv_has ls 4 [(0, .ref (o 0)), (1, .int x), (2, .int y), (3, .int z)] := hl
  have h8 := hI.2.1
  refine lv_aload_n hx hb dX10_on_0 rfl (lv_at hl 0 rfl) ?_
  refine lv_iload_n hx hb dX10_on_1 rfl (lv_at hl 1 rfl) ?_
  refine cV_i0 S0 hG hA h hl.1 kw_RX10_106 kdV_X10_isNobody (c_X10_isNobody hI.2.1) ⟨rfl, rfl, by decide, by decide, Nat.le_refl _, Nat.le_refl _⟩ rfl 10 0 rfl rfl rfl (Nat.le_of_ble_eq_true rfl) dX10_on_2 (fun _ => rfl) (fun r u H locs hq h => ?_)
  rcases hq with ⟨rfl, b2⟩ | ⟨rfl, b2⟩
  ·
    refine n_zne hx hb (by decide) (tgt := 28) dX10_on_5 (by decide) (fun _ => ?_) (fun q => absurd q (by decide))
    refine lv_aload_n hx hb dX10_on_28 rfl (lv_at hl 0 rfl) ?_
    refine lv_ldc (v := -1000000001) hx hb S0.2.2.2.1 (S0.2.2.2.2 _ (rin6 _ (List.mem_of_getElem? (i := 6) rfl))) dX10_on_29 ?_
    refine cV_i0 S0 hG hA h hl.1 kw_RX10_58 kdV_X10_tell (c_X10_tell (k := 0) (by decide) (by decide)) ⟨rfl, rfl, by decide, by decide, Nat.le_refl _, Nat.le_refl _⟩ rfl 10 0 rfl rfl rfl (Nat.le_of_ble_eq_true rfl) dX10_on_31 (fun _ => rfl) (fun r u H locs hq h => ?_)
    obtain rfl := hq
    exact hret _ (bump st 0, D) _ _ _ _ (Or.inr ⟨fun q9 => b2 q9.1, rfl, rfl⟩) h dX10_on_34
  ·
    refine n_zne hx hb (by decide) (tgt := 28) dX10_on_5 (by decide) (fun q => absurd q (by decide)) (fun _ => ?_)
    refine lv_iload_n hx hb dX10_on_8 rfl (lv_at hl 2 rfl) ?_
    refine lv_iconst (v := nI 0) hx hb dX10_on_9 (by decide) ?_
    refine lv_sipush (v := nI 300) hx hb dX10_on_10 (by decide) ?_
    refine cS_iE S0 hG hA h hl.1 kw_RX10_49 kdS_X10_isOutside (c_X10_isOutside) ⟨rfl, rfl, by decide, by decide, Nat.le_refl _, Nat.le_refl _⟩ rfl rfl (Nat.le_of_ble_eq_true rfl) dX10_on_13 (fun r u H locs hq h => ?_)
    have hq : (r = nI 1 ∧ ¬ inR y 0 300) ∨ (r = nI 0 ∧ inR y 0 300) := hq
    rcases hq with ⟨rfl, b13⟩ | ⟨rfl, b13⟩
    ·
      refine n_zne hx hb (by decide) (tgt := 28) dX10_on_16 (by decide) (fun _ => ?_) (fun q => absurd q (by decide))
      refine lv_aload_n hx hb dX10_on_28 rfl (lv_at hl 0 rfl) ?_
      refine lv_ldc (v := -1000000001) hx hb S0.2.2.2.1 (S0.2.2.2.2 _ (rin6 _ (List.mem_of_getElem? (i := 6) rfl))) dX10_on_29 ?_
      refine cV_i0 S0 hG hA h hl.1 kw_RX10_58 kdV_X10_tell (c_X10_tell (k := 0) (by decide) (by decide)) ⟨rfl, rfl, by decide, by decide, Nat.le_refl _, Nat.le_refl _⟩ rfl 10 0 rfl rfl rfl (Nat.le_of_ble_eq_true rfl) dX10_on_31 (fun _ => rfl) (fun r u H locs hq h => ?_)
      obtain rfl := hq
      exact hret _ (bump st 0, D) _ _ _ _ (Or.inr ⟨fun q9 => b13 q9.2.1, rfl, rfl⟩) h dX10_on_34
    ·
      refine n_zne hx hb (by decide) (tgt := 28) dX10_on_16 (by decide) (fun q => absurd q (by decide)) (fun _ => ?_)
      refine lv_iload_n hx hb dX10_on_19 rfl (lv_at hl 3 rfl) ?_
      refine lv_iconst (v := nI 0) hx hb dX10_on_20 (by decide) ?_
      refine lv_iconst (v := nI 2) hx hb dX10_on_21 (by decide) ?_
      refine cS_iE S0 hG hA h hl.1 kw_RX10_49 kdS_X10_isOutside (c_X10_isOutside) ⟨rfl, rfl, by decide, by decide, Nat.le_refl _, Nat.le_refl _⟩ rfl rfl (Nat.le_of_ble_eq_true rfl) dX10_on_22 (fun r u H locs hq h => ?_)
      have hq : (r = nI 1 ∧ ¬ inR z 0 2) ∨ (r = nI 0 ∧ inR z 0 2) := hq
      rcases hq with ⟨rfl, b22⟩ | ⟨rfl, b22⟩
      ·
        refine n_zeq hx hb (by decide) (tgt := 35) dX10_on_25 (by decide) (fun q => absurd q (by decide)) (fun _ => ?_)
        refine lv_aload_n hx hb dX10_on_28 rfl (lv_at hl 0 rfl) ?_
        refine lv_ldc (v := -1000000001) hx hb S0.2.2.2.1 (S0.2.2.2.2 _ (rin6 _ (List.mem_of_getElem? (i := 6) rfl))) dX10_on_29 ?_
        refine cV_i0 S0 hG hA h hl.1 kw_RX10_58 kdV_X10_tell (c_X10_tell (k := 0) (by decide) (by decide)) ⟨rfl, rfl, by decide, by decide, Nat.le_refl _, Nat.le_refl _⟩ rfl 10 0 rfl rfl rfl (Nat.le_of_ble_eq_true rfl) dX10_on_31 (fun _ => rfl) (fun r u H locs hq h => ?_)
        obtain rfl := hq
        exact hret _ (bump st 0, D) _ _ _ _ (Or.inr ⟨fun q9 => b22 q9.2.2, rfl, rfl⟩) h dX10_on_34
      ·
        obtain ⟨jx, rfl, jx1, jx2⟩ := inR_nat (hi := (f 1 : Int) - 1) b2
        obtain ⟨jy, rfl, jy1, jy2⟩ := inR_nat b13
        obtain ⟨jz, rfl, jz1, jz2⟩ := inR_nat b22
        refine n_zeq hx hb (by decide) (tgt := 35) dX10_on_25 (by decide) (fun _ => ?_) (fun q => absurd q (by decide))
        refine lv_aload_n hx hb dX10_on_35 rfl (lv_at hl 0 rfl) ?_
        refine gC_trial S0 hG h dX10_on_36 ?_
        refine lv_aload_n hx hb dX10_on_39 rfl (lv_at hl 0 rfl) ?_
        refine gC_present S0 hG h dX10_on_40 ?_
        refine cN_vC (w2 := fun u => wC G o f st tb tn nu bi si kp g (D.1, (f, D.2.1.2), D.2.2)) S0 hG hA h hl.1 (ws_ok (rin22 _ (List.mem_of_getElem? (i := 18) rfl))) (rin2 _ (List.mem_of_getElem? (i := 3) rfl)) (rin22 _ (List.mem_of_getElem? (i := 16) rfl)) (rin22 _ (List.mem_of_getElem? (i := 17) rfl)) (host := "ComposedInterval") (List.mem_of_getElem? (i := 55) rfl) kdS_X3_become (c_X3_become (a := aT o) (b := aP o) (f := D.2.1.1) (q := D.2.1.2.1) (sp := D.2.1.2.2.1) (rg := D.2.1.2.2.2.1) (wd := D.2.1.2.2.2.2.1) (it := D.2.1.2.2.2.2.2) (f2 := f) (q2 := D.1.1) (sp2 := D.1.2.1) (rg2 := D.1.2.2.1) (wd2 := D.1.2.2.2.1) (it2 := D.1.2.2.2.2)) ⟨rfl, rfl, by decide, by decide, Nat.le_refl _, Nat.le_refl _⟩ rfl 3 17 rfl rfl [17, 18, 19, 20, 21, 22, 23, 24, 25, 1, 2, 3, 4, 5, 6, 7, 8, 9] (by decide) rfl rfl rfl (Nat.le_of_ble_eq_true rfl) dX10_on_43 (fun _ H1 hk hP1 => WX.back h [17, 18, 19, 20, 21, 22, 23, 24, 25, 1, 2, 3, 4, 5, 6, 7, 8, 9] rfl hk hP1 (fit_TP (D := D))) (fun _ => rfl) (fun u H locs hq h => ?_)
        refine lv_aload_n hx hb dX10_on_46 rfl (lv_at hl 0 rfl) ?_
        refine gC_trial S0 hG h dX10_on_47 ?_
        refine lv_iload_n hx hb dX10_on_50 rfl (lv_at hl 2 rfl) ?_
        refine cN_vC (w2 := fun u => wC G o f st tb tn nu bi si kp g (D.1, (goF f jy, u), D.2.2)) S0 hG hA h hl.1 (ws_ok (rin20 _ (List.mem_of_getElem? (i := 20) rfl))) (rin2 _ (List.mem_of_getElem? (i := 3) rfl)) (rin20 _ (List.mem_of_getElem? (i := 18) rfl)) (rin20 _ (List.mem_of_getElem? (i := 19) rfl)) (host := "ComposedInterval") (List.mem_of_getElem? (i := 54) rfl) kdS_X3_go (c_X3_go (a := aT o) (f := f) (q := D.2.1.2.1) (sp := D.2.1.2.2.1) (rg := D.2.1.2.2.2.1) (wd := D.2.1.2.2.2.2.1) (it := D.2.1.2.2.2.2.2) hI (by omega)) ⟨rfl, rfl, by decide, by decide, Nat.le_refl _, Nat.le_refl _⟩ rfl 3 17 rfl rfl [17, 18, 19, 20, 21, 22, 23, 24, 25, 10, 11, 12, 13, 14, 15, 16] (by decide) rfl rfl rfl (Nat.le_of_ble_eq_true rfl) dX10_on_51 (fun _ H1 hk hP1 => WX.back h [17, 18, 19, 20, 21, 22, 23, 24, 25, 10, 11, 12, 13, 14, 15, 16] rfl hk hP1 (fit_T (D := (D.1, (f, D.2.1.2), D.2.2)))) (fun _ => rfl) (fun u H locs hq h => ?_)
        obtain ⟨jg, rfl⟩ : ∃ z9, z9 = u := ⟨u, rfl⟩
        refine lv_iload_n hx hb dX10_on_54 rfl (lv_at hl 3 rfl) ?_
        rcases (show jz = 0 ∨ jz = 1 ∨ jz = 2 by omega) with rfl | rfl | rfl
        ·
          refine lv_lookup hx hb (off := 25) (tgt := 80) dX10_on_55 (by decide) (by decide) (by decide) ?_
          refine lv_aload_n hx hb dX10_on_80 rfl (lv_at hl 0 rfl) ?_
          refine gC_trial S0 hG h dX10_on_81 ?_
          refine kTg_at S0 hG h dX10_on_84 ?_
          refine lv_iload_n hx hb dX10_on_87 rfl (lv_at hl 1 rfl) ?_
          refine kTr_at S0 hG h (by omega) dX10_on_88 ?_
          exact hret _ (st, (D.1, (goF f jy, jg), D.2.2)) _ _ _ _ (Or.inl ⟨⟨b2, b13, b22⟩, by rw [nt_nI jx2, nt_nI jy2]; rfl, rfl⟩) h dX10_on_89
        ·
          refine lv_lookup hx hb (off := 35) (tgt := 90) dX10_on_55 (by decide) (by decide) (by decide) ?_
          refine lv_aload_n hx hb dX10_on_90 rfl (lv_at hl 0 rfl) ?_
          refine gC_trial S0 hG h dX10_on_91 ?_
          refine kTg_played S0 hG h dX10_on_94 ?_
          refine lv_iload_n hx hb dX10_on_97 rfl (lv_at hl 1 rfl) ?_
          refine kTr_played S0 hG h (by omega) dX10_on_98 ?_
          exact hret _ (st, (D.1, (goF f jy, jg), D.2.2)) _ _ _ _ (Or.inl ⟨⟨b2, b13, b22⟩, by rw [nt_nI jx2, nt_nI jy2]; rfl, rfl⟩) h dX10_on_99
        ·
          refine lv_lookup hx hb (off := 45) (tgt := 100) dX10_on_55 (by decide) (by decide) (by decide) ?_
          refine lv_aload_n hx hb dX10_on_100 rfl (lv_at hl 0 rfl) ?_
          refine gC_trial S0 hG h dX10_on_101 ?_
          refine kTg_spoilt S0 hG h dX10_on_104 ?_
          refine lv_iload_n hx hb dX10_on_107 rfl (lv_at hl 1 rfl) ?_
          refine kTr_spoilt S0 hG h (by omega) dX10_on_108 ?_
          exact hret _ (st, (D.1, (goF f jy, jg), D.2.2)) _ _ _ _ (Or.inl ⟨⟨b2, b13, b22⟩, by rw [nt_nI jx2, nt_nI jy2]; rfl, rfl⟩) h dX10_on_109
