variable {G : GT} {l : Launch} {o : Nat → Nat} {f st tb : Row} {tn : Nat} {nu : Nat → Int64} {bi si : Row} {kp : Nat} {g : Row} {D : DT}
set_option maxHeartbeats 4000000 in
set_option maxRecDepth 100000 in
theorem c_X10_worst {x : Int32} (hI : Inv f) (h0 : f 0 ≤ 99999) : Ki G l yX10_worst cX10_worst 4 (some .int) (RM 7 135) [.ref (o 0), .int x] (wC G o f st tb tn nu bi si kp g D) (fun u : Row × DT => wC G o f u.1 tb tn nu bi si kp g u.2) (fun r u => P_worst f st x r u.1) := by
  refine Ki.of (by decide) (Nat.le_of_ble_eq_true rfl) ?_
  intro p e s m args below meth c A Q ls hx hb S0 hG hA h hret hl
  have S0 : CF p m c cX10_worst 4 s args RX10 := S0
  have hl : lv_has ls 4 [(0, .ref (o 0)), (1, .int x)] := hl
  have h8 := hI.2.1
  refine lv_iload_n hx hb dX10_worst_0 rfl (lv_at hl 1 rfl) ?_
  refine lv_iconst (v := nI 0) hx hb dX10_worst_1 (by decide) ?_
  refine lv_sipush (v := nI 300) hx hb dX10_worst_2 (by decide) ?_
  refine cS_iE S0 hG hA h hl.1 kw_RX10_49 kdS_X10_isOutside (c_X10_isOutside) ⟨rfl, rfl, by decide, by decide, Nat.le_refl _, Nat.le_refl _⟩ rfl rfl (Nat.le_of_ble_eq_true rfl) dX10_worst_5 (fun r u H locs hq h => ?_)
  have hq : (r = nI 1 ∧ ¬ inR x 0 300) ∨ (r = nI 0 ∧ inR x 0 300) := hq
  rcases hq with ⟨rfl, b5⟩ | ⟨rfl, b5⟩
  ·
    refine n_zeq hx hb (by decide) (tgt := 18) dX10_worst_8 (by decide) (fun q => absurd q (by decide)) (fun _ => ?_)
    refine lv_aload_n hx hb dX10_worst_11 rfl (lv_at hl 0 rfl) ?_
    refine lv_ldc (v := -1000000001) hx hb S0.2.2.2.1 (S0.2.2.2.2 _ (rin6 _ (List.mem_of_getElem? (i := 6) rfl))) dX10_worst_12 ?_
    refine cV_i0 S0 hG hA h hl.1 kw_RX10_58 kdV_X10_tell (c_X10_tell (k := 0) (by decide) (by decide)) ⟨rfl, rfl, by decide, by decide, Nat.le_refl _, Nat.le_refl _⟩ rfl 10 0 rfl rfl rfl (Nat.le_of_ble_eq_true rfl) dX10_worst_14 (fun _ => rfl) (fun r u H locs hq h => ?_)
    obtain rfl := hq
    exact hret _ (bump st 0, D) _ _ _ _ (Or.inr ⟨b5, rfl, rfl⟩) h dX10_worst_17
  ·
    obtain ⟨j, rfl, j1, j2⟩ := inR_nat b5
    refine n_zeq hx hb (by decide) (tgt := 18) dX10_worst_8 (by decide) (fun _ => ?_) (fun q => absurd q (by decide))
    refine lv_aload_n hx hb dX10_worst_18 rfl (lv_at hl 0 rfl) ?_
    refine gC_present S0 hG h dX10_worst_19 ?_
    refine kPg_people S0 hG h dX10_worst_22 ?_
    refine n_zne hx hb (by omega) (tgt := 35) dX10_worst_25 (by decide) (fun c25 => ?_) (fun c25 => ?_)
    ·
      refine lv_aload_n hx hb dX10_worst_35 rfl (lv_at hl 0 rfl) ?_
      refine gC_trial S0 hG h dX10_worst_36 ?_
      refine lv_aload_n hx hb dX10_worst_39 rfl (lv_at hl 0 rfl) ?_
      refine gC_present S0 hG h dX10_worst_40 ?_
      refine cN_vC (w2 := fun u => wC G o f st tb tn nu bi si kp g (D.1, (f, D.2.1.2), D.2.2)) S0 hG hA h hl.1 (ws_ok (rin22 _ (List.mem_of_getElem? (i := 18) rfl))) (rin2 _ (List.mem_of_getElem? (i := 3) rfl)) (rin22 _ (List.mem_of_getElem? (i := 16) rfl)) (rin22 _ (List.mem_of_getElem? (i := 17) rfl)) (host := "ComposedInterval") (List.mem_of_getElem? (i := 55) rfl) kdS_X3_become (c_X3_become (a := aT o) (b := aP o) (f := D.2.1.1) (q := D.2.1.2.1) (sp := D.2.1.2.2.1) (rg := D.2.1.2.2.2.1) (wd := D.2.1.2.2.2.2.1) (it := D.2.1.2.2.2.2.2) (f2 := f) (q2 := D.1.1) (sp2 := D.1.2.1) (rg2 := D.1.2.2.1) (wd2 := D.1.2.2.2.1) (it2 := D.1.2.2.2.2)) ⟨rfl, rfl, by decide, by decide, Nat.le_refl _, Nat.le_refl _⟩ rfl 3 17 rfl rfl [17, 18, 19, 20, 21, 22, 23, 24, 25, 1, 2, 3, 4, 5, 6, 7, 8, 9] (by decide) rfl rfl rfl (Nat.le_of_ble_eq_true rfl) dX10_worst_43 (fun _ H1 hk hP1 => WX.back h [17, 18, 19, 20, 21, 22, 23, 24, 25, 1, 2, 3, 4, 5, 6, 7, 8, 9] rfl hk hP1 (fit_TP (D := D))) (fun _ => rfl) (fun u H locs hq h => ?_)
      refine lv_aload_n hx hb dX10_worst_46 rfl (lv_at hl 0 rfl) ?_
      refine gC_trial S0 hG h dX10_worst_47 ?_
      refine lv_iload_n hx hb dX10_worst_50 rfl (lv_at hl 1 rfl) ?_
      refine cN_vC (w2 := fun u => wC G o f st tb tn nu bi si kp g (D.1, (goF f j, u), D.2.2)) S0 hG hA h hl.1 (ws_ok (rin20 _ (List.mem_of_getElem? (i := 20) rfl))) (rin2 _ (List.mem_of_getElem? (i := 3) rfl)) (rin20 _ (List.mem_of_getElem? (i := 18) rfl)) (rin20 _ (List.mem_of_getElem? (i := 19) rfl)) (host := "ComposedInterval") (List.mem_of_getElem? (i := 54) rfl) kdS_X3_go (c_X3_go (a := aT o) (f := f) (q := D.2.1.2.1) (sp := D.2.1.2.2.1) (rg := D.2.1.2.2.2.1) (wd := D.2.1.2.2.2.2.1) (it := D.2.1.2.2.2.2.2) hI (by omega)) ⟨rfl, rfl, by decide, by decide, Nat.le_refl _, Nat.le_refl _⟩ rfl 3 17 rfl rfl [17, 18, 19, 20, 21, 22, 23, 24, 25, 10, 11, 12, 13, 14, 15, 16] (by decide) rfl rfl rfl (Nat.le_of_ble_eq_true rfl) dX10_worst_51 (fun _ H1 hk hP1 => WX.back h [17, 18, 19, 20, 21, 22, 23, 24, 25, 10, 11, 12, 13, 14, 15, 16] rfl hk hP1 (fit_T (D := (D.1, (f, D.2.1.2), D.2.2)))) (fun _ => rfl) (fun u H locs hq h => ?_)
      obtain ⟨jg, rfl⟩ : ∃ z9, z9 = u := ⟨u, rfl⟩
      have hI9 := goF_inv hI j (by omega)
      have e1 : goF f j 1 = f 1 := goF_lo f (by omega) (by omega) j
      refine lv_iconst (v := nI 0) hx hb dX10_worst_54 (by decide) ?_
      refine lv_istore_n hx hb dX10_worst_55 rfl hl (by decide) rfl (fun ls hl => ?_)
      refine lv_iconst (v := nI 1) hx hb dX10_worst_56 (by decide) ?_
      refine lv_istore_n hx hb dX10_worst_57 rfl hl (by decide) rfl (fun ls hl => ?_)
      have lp58 : ∀ (kf : Nat) (q9 w9 : Nat) (H : Heap) (locs : List Loc) (ls : Array Slot) (hq9 : 1 ≤ q9 ∧ q9 ≤ f 1) (hw : w9 = am (fun p => nI (its (goF f j) p 4)) (q9 - 1)), 9 - q9 < kf → WX G A s H locs (wC G o f st tb tn nu bi si kp g (D.1, (goF f j, jg), D.2.2)) → lv_has ls 4 [(0, .ref (o 0)), (1, .int (nI j)), (2, .int (nI w9)), (3, .int (nI q9))] → W p l e (RM 7 135) s m args below meth c H locs 0 0 Q (F0 m 58 ls []) := by
        intro kf
        induction kf with
        | zero => intro q9 w9 H locs ls hq9 hw hm; exact absurd hm (Nat.not_lt_zero _)
        | succ kf ih58 =>
          intro q9 w9 H locs ls hq9 hw hm h hl
          have a9 := am_le (fun p => nI (its (goF f j) p 4)) (q9 - 1)
          refine lv_iload_n hx hb dX10_worst_58 rfl (lv_at hl 3 rfl) ?_
          refine lv_aload_n hx hb dX10_worst_59 rfl (lv_at hl 0 rfl) ?_
          refine gC_trial S0 hG h dX10_worst_60 ?_
          refine kTg_people S0 hG h dX10_worst_63 ?_
          refine tN (t := (goF f j) 1) rfl ?_
          refine n_cge hx hb (by omega) (by omega) (tgt := 98) dX10_worst_66 (by decide) (fun c66 => ?_) (fun c66 => ?_)
          ·
            refine lv_iload_n hx hb dX10_worst_98 rfl (lv_at hl 2 rfl) ?_
            obtain rfl : q9 = f 1 := by omega
            exact hret _ (st, (D.1, (goF f j, jg), D.2.2)) _ _ _ _ (Or.inl ⟨b5, Or.inr ⟨by omega, by rw [nt_nI j2, hw], rfl⟩⟩) h dX10_worst_99
          ·
            refine lv_aload_n hx hb dX10_worst_69 rfl (lv_at hl 0 rfl) ?_
            refine gC_trial S0 hG h dX10_worst_70 ?_
            refine kTg_spoilt S0 hG h dX10_worst_73 ?_
            refine lv_iload_n hx hb dX10_worst_76 rfl (lv_at hl 3 rfl) ?_
            refine kTr_spoilt S0 hG h (by omega) dX10_worst_77 ?_
            refine tN (t := its (goF f j) _ 4) rfl ?_
            refine lv_aload_n hx hb dX10_worst_78 rfl (lv_at hl 0 rfl) ?_
            refine gC_trial S0 hG h dX10_worst_79 ?_
            refine kTg_spoilt S0 hG h dX10_worst_82 ?_
            refine lv_iload_n hx hb dX10_worst_85 rfl (lv_at hl 2 rfl) ?_
            refine kTr_spoilt S0 hG h (by omega) dX10_worst_86 ?_
            refine tN (t := its (goF f j) _ 4) rfl ?_
            refine n_cle hx hb (by have := hI9.its_le (p := q9) (w := 4) (by omega) (by omega); have := hI9.its_le (p := w9) (w := 4) (by omega) (by omega); omega) (by have := hI9.its_le (p := q9) (w := 4) (by omega) (by omega); have := hI9.its_le (p := w9) (w := 4) (by omega) (by omega); omega) (tgt := 92) dX10_worst_87 (by decide) (fun c87 => ?_) (fun c87 => ?_)
            ·
              refine lv_iinc hx hb dX10_worst_92 hl (k := 3) rfl (inc_1 _) (by decide) rfl (fun ls hl => ?_)
              refine lv_goto (tgt := 58) hx hb dX10_worst_95 (by decide) ?_
              exact ih58 (q9 + 1) w9 _ _ _ (by omega) (wst_t (q := q9) hI9 (by omega) (by omega) hw c87) (by omega) h (lv_sub hl [1, 2, 3, 0] rfl)
            ·
              refine lv_iload_n hx hb dX10_worst_90 rfl (lv_at hl 3 rfl) ?_
              refine lv_istore_n hx hb dX10_worst_91 rfl hl (by decide) rfl (fun ls hl => ?_)
              refine lv_iinc hx hb dX10_worst_92 hl (k := 3) rfl (inc_1 _) (by decide) rfl (fun ls hl => ?_)
              refine lv_goto (tgt := 58) hx hb dX10_worst_95 (by decide) ?_
              exact ih58 (q9 + 1) q9 _ _ _ (by omega) (wst_f (q := q9) hI9 (by omega) (by omega) hw c87) (by omega) h (lv_sub hl [2, 3, 1, 0] rfl)
      exact lp58 _ 1 0 _ _ _ (by omega) rfl (Nat.lt_succ_self _) h (lv_sub hl [2, 3, 1, 0] rfl)
    ·
      refine lv_aload_n hx hb dX10_worst_28 rfl (lv_at hl 0 rfl) ?_
      refine lv_ldc (v := -1000000004) hx hb S0.2.2.2.1 (S0.2.2.2.2 _ (rin24 _ (List.mem_of_getElem? (i := 7) rfl))) dX10_worst_29 ?_
      refine cV_i0 S0 hG hA h hl.1 kw_RX10_58 kdV_X10_tell (c_X10_tell (k := 3) (by decide) (by decide)) ⟨rfl, rfl, by decide, by decide, Nat.le_refl _, Nat.le_refl _⟩ rfl 10 0 rfl rfl rfl (Nat.le_of_ble_eq_true rfl) dX10_worst_31 (fun _ => rfl) (fun r u H locs hq h => ?_)
      obtain rfl := hq
      exact hret _ (bump st 3, D) _ _ _ _ (Or.inl ⟨b5, Or.inl ⟨c25, rfl, rfl⟩⟩) h dX10_worst_34
