theorem mark1_ge {f : Row} (d : Row) (p : Nat) {q : Nat} (h : its f q 3 ≤ 9999) : its f q 3 ≤ its (mark1 f d p) q 3 := by
  unfold mark1
  split
  · by_cases e : q = p
    · subst e; rw [its_up_e]; omega
    · rw [its_up_n (by omega) (by omega) (Or.inl e)]; exact Nat.le_refl _
  · rw [its_up_n (by omega) (by omega) (Or.inr (by omega))]; exact Nat.le_refl _
theorem markN_ge {f : Row} (hI : Inv f) (d : Row) {q : Nat} (hq : q < 8) : ∀ n, its f q 3 ≤ its (markN f d n) q 3
  | 0 => Nat.le_refl _
  | n + 1 => Nat.le_trans (markN_ge hI d hq n) (mark1_ge d n ((markN_inv hI d n).its_le hq (by omega)))
theorem minF_ge {f : Row} (hI : Inv f) {q : Nat} (hq : q < 8) : its f q 3 ≤ its (minF f) q 3 := by
  have h1 := markN_ge (walkN_inv hI (f 1) hI.2.1) (duF f) hq (f 1)
  rw [walkN_its f (by omega) (by omega)] at h1
  unfold minF
  rw [its_lo (by omega)]
  exact h1
theorem goF_ge {f : Row} (hI : Inv f) {q : Nat} (hq : q < 8) : ∀ n, f 0 + n ≤ 200000 → its f q 3 ≤ its (goF f n) q 3
  | 0, _ => Nat.le_refl _
  | n + 1, h => Nat.le_trans (goF_ge hI hq n (by omega)) (minF_ge (goF_inv hI n (by omega)) hq)
theorem nI_nl1 {n : Nat} (h : n < 2147483648) : ¬ nI n ≤ -1 := fun q => by
  have h1 := Int32.le_iff_toInt_le.mp q
  rw [nI_toInt h] at h1
  have h2 : (-1 : Int32).toInt = -1 := rfl
  omega
theorem am_t {g : Nat → Int32} {v : Nat} (hv : 0 < v) (c : g v ≤ g (am g (v - 1))) : am g v = am g (v - 1) := by
  rw [am_step (by omega), if_neg (Int32.not_lt.mpr c)]
theorem am_f {g : Nat → Int32} {v : Nat} (hv : 0 < v) (c : ¬ g v ≤ g (am g (v - 1))) : am g v = v := by
  rw [am_step (by omega), if_pos (Int32.not_le.mp c)]
theorem bsg_t {g : Nat → Int32} {v best : Nat} {mo k : Int32} (hg : ¬ g 0 ≤ k) (hb : (v = 0 → best = 0 ∧ mo = k) ∧ (0 < v → best = am g (v - 1) ∧ mo = g (am g (v - 1)))) (c : g v ≤ mo) : best = am g v ∧ mo = g (am g v) := by
  rcases Nat.eq_zero_or_pos v with h0 | h0
  · subst h0; obtain ⟨h1, h2⟩ := hb.1 rfl; subst h2; exact absurd c hg
  · obtain ⟨h1, h2⟩ := hb.2 h0
    rw [am_t h0 (by rw [← h2]; exact c)]
    exact ⟨h1, h2⟩
theorem bsg_f {g : Nat → Int32} {v best : Nat} {mo k : Int32} (hb : (v = 0 → best = 0 ∧ mo = k) ∧ (0 < v → best = am g (v - 1) ∧ mo = g (am g (v - 1)))) (c : ¬ g v ≤ mo) : v = am g v ∧ g v = g (am g v) := by
  rcases Nat.eq_zero_or_pos v with h0 | h0
  · subst h0; exact ⟨rfl, rfl⟩
  · obtain ⟨h1, h2⟩ := hb.2 h0
    rw [am_f h0 (by rw [← h2]; exact c)]
    exact ⟨rfl, rfl⟩
theorem cst_t {g : Nat → Int32} {v best : Nat} {mo : Int32} (hb : 0 < v → best = am g (v - 1) ∧ mo = g (am g (v - 1))) (h0 : 0 < v) (c : g v ≤ mo) : best = am g v ∧ mo = g (am g v) := by
  obtain ⟨h1, h2⟩ := hb h0
  rw [am_t h0 (by rw [← h2]; exact c)]
  exact ⟨h1, h2⟩
theorem cst_f {g : Nat → Int32} {v best : Nat} {mo : Int32} (hb : 0 < v → best = am g (v - 1) ∧ mo = g (am g (v - 1))) (h0 : 0 < v) (c : ¬ g v ≤ mo) : v = am g v ∧ g v = g (am g v) := by
  obtain ⟨h1, h2⟩ := hb h0
  rw [am_f h0 (by rw [← h2]; exact c)]
  exact ⟨rfl, rfl⟩
theorem cst_0 {g T : Nat → Int32} {v : Nat} (h0 : v = 0) : v = am g v ∧ T v = T (am g v) := by subst h0; exact ⟨rfl, rfl⟩
theorem neg_leI {x y : Int32} (hx : -2147483647 ≤ x.toInt) (hy : -2147483647 ≤ y.toInt) : -x ≤ -y ↔ y ≤ x := by
  rw [Int32.le_iff_toInt_le, Int32.le_iff_toInt_le, neg_toInt hx, neg_toInt hy]
  omega
theorem dst_t {T : Nat → Int32} {v best : Nat} {mo : Int32} (hT : ∀ i, i ≤ v → -2147483647 ≤ (T i).toInt) (hb : 0 < v → best = am (fun v => - T v) (v - 1) ∧ mo = T (am (fun v => - T v) (v - 1))) (h0 : 0 < v) (c : mo ≤ T v) : best = am (fun v => - T v) v ∧ mo = T (am (fun v => - T v) v) := by
  obtain ⟨h1, h2⟩ := hb h0
  have h3 := am_le (fun v => - T v) (v - 1)
  rw [am_t h0 ((neg_leI (hT _ (Nat.le_refl _)) (hT _ (by omega))).mpr (by rw [← h2]; exact c))]
  exact ⟨h1, h2⟩
theorem dst_f {T : Nat → Int32} {v best : Nat} {mo : Int32} (hT : ∀ i, i ≤ v → -2147483647 ≤ (T i).toInt) (hb : 0 < v → best = am (fun v => - T v) (v - 1) ∧ mo = T (am (fun v => - T v) (v - 1))) (h0 : 0 < v) (c : ¬ mo ≤ T v) : v = am (fun v => - T v) v ∧ T v = T (am (fun v => - T v) v) := by
  obtain ⟨h1, h2⟩ := hb h0
  have h3 := am_le (fun v => - T v) (v - 1)
  rw [am_f h0 (fun z => c (by rw [h2]; exact (neg_leI (hT _ (Nat.le_refl _)) (hT _ (by omega))).mp z))]
  exact ⟨rfl, rfl⟩
theorem wst_t {F : Row} (hI : Inv F) {q w : Nat} (h0 : 0 < q) (h8 : q < 8) (hw : w = am (fun p => nI (its F p 4)) (q - 1)) (c : its F q 4 ≤ its F w 4) : w = am (fun p => nI (its F p 4)) q := by
  have h3 := am_le (fun p => nI (its F p 4)) (q - 1)
  have h1 := hI.its_le (p := q) (w := 4) h8 (by omega)
  have h2 := hI.its_le (p := w) (w := 4) (by omega) (by omega)
  rw [am_t h0 (by rw [← hw]; exact Int32.le_iff_toInt_le.mpr (by rw [nI_toInt (by omega), nI_toInt (by omega)]; omega))]
  exact hw
theorem wst_f {F : Row} (hI : Inv F) {q w : Nat} (h0 : 0 < q) (h8 : q < 8) (hw : w = am (fun p => nI (its F p 4)) (q - 1)) (c : its F w 4 < its F q 4) : q = am (fun p => nI (its F p 4)) q := by
  have h3 := am_le (fun p => nI (its F p 4)) (q - 1)
  have h1 := hI.its_le (p := q) (w := 4) h8 (by omega)
  have h2 := hI.its_le (p := w) (w := 4) (by omega) (by omega)
  rw [am_f h0 (by rw [← hw]; intro z; have z := Int32.le_iff_toInt_le.mp z; rw [nI_toInt (by omega), nI_toInt (by omega)] at z; omega)]
variable {G : GT} {l : Launch} {o : Nat → Nat} {f st tb : Row} {tn : Nat} {nu : Nat → Int64} {bi si : Row} {kp : Nat} {g : Row} {D : DT}
set_option maxHeartbeats 4000000 in
set_option maxRecDepth 100000 in
theorem c_X10_plays {x : Int32} (hI : Inv f) (h0 : f 0 ≤ 99999) : Ki G l yX10_plays cX10_plays 3 (some .int) (RM 6 113) [.ref (o 0), .int x] (wC G o f st tb tn nu bi si kp g D) (fun u : Row × DT => wC G o f u.1 tb tn nu bi si kp g u.2) (fun r u => P_plays f st x r u.1) := by
  refine Ki.of (by decide) (Nat.le_of_ble_eq_true rfl) ?_
  intro p e s m args below meth c A Q ls hx hb S0 hG hA h hret hl
  have S0 : CF p m c cX10_plays 3 s args RX10 := S0
  have hl : lv_has ls 3 [(0, .ref (o 0)), (1, .int x)] := hl
  have h8 := hI.2.1
  refine lv_aload_n hx hb dX10_plays_0 rfl (lv_at hl 0 rfl) ?_
  refine lv_iload_n hx hb dX10_plays_1 rfl (lv_at hl 1 rfl) ?_
  refine cV_i0 S0 hG hA h hl.1 kw_RX10_106 kdV_X10_isNobody (c_X10_isNobody hI.2.1) ⟨rfl, rfl, by decide, by decide, Nat.le_refl _, Nat.le_refl _⟩ rfl 10 0 rfl rfl rfl (Nat.le_of_ble_eq_true rfl) dX10_plays_2 (fun _ => rfl) (fun r u H locs hq h => ?_)
  rcases hq with ⟨rfl, b2⟩ | ⟨rfl, b2⟩
  ·
    refine n_zeq hx hb (by decide) (tgt := 15) dX10_plays_5 (by decide) (fun q => absurd q (by decide)) (fun _ => ?_)
    refine lv_aload_n hx hb dX10_plays_8 rfl (lv_at hl 0 rfl) ?_
    refine lv_ldc (v := -1000000001) hx hb S0.2.2.2.1 (S0.2.2.2.2 _ (rin6 _ (List.mem_of_getElem? (i := 6) rfl))) dX10_plays_9 ?_
    refine cV_i0 S0 hG hA h hl.1 kw_RX10_58 kdV_X10_tell (c_X10_tell (k := 0) (by decide) (by decide)) ⟨rfl, rfl, by decide, by decide, Nat.le_refl _, Nat.le_refl _⟩ rfl 10 0 rfl rfl rfl (Nat.le_of_ble_eq_true rfl) dX10_plays_11 (fun _ => rfl) (fun r u H locs hq h => ?_)
    obtain rfl := hq
    exact hret _ (bump st 0, D) _ _ _ _ (Or.inr ⟨b2, rfl, rfl⟩) h dX10_plays_14
  ·
    obtain ⟨jx, rfl, jx1, jx2⟩ := inR_nat (hi := (f 1 : Int) - 1) b2
    refine n_zeq hx hb (by decide) (tgt := 15) dX10_plays_5 (by decide) (fun _ => ?_) (fun q => absurd q (by decide))
    refine lv_aload_n hx hb dX10_plays_15 rfl (lv_at hl 0 rfl) ?_
    refine gC_trial S0 hG h dX10_plays_16 ?_
    refine lv_aload_n hx hb dX10_plays_19 rfl (lv_at hl 0 rfl) ?_
    refine gC_present S0 hG h dX10_plays_20 ?_
    refine cN_vC (w2 := fun u => wC G o f st tb tn nu bi si kp g (D.1, (f, D.2.1.2), D.2.2)) S0 hG hA h hl.1 (ws_ok (rin22 _ (List.mem_of_getElem? (i := 18) rfl))) (rin2 _ (List.mem_of_getElem? (i := 3) rfl)) (rin22 _ (List.mem_of_getElem? (i := 16) rfl)) (rin22 _ (List.mem_of_getElem? (i := 17) rfl)) (host := "ComposedInterval") (List.mem_of_getElem? (i := 55) rfl) kdS_X3_become (c_X3_become (a := aT o) (b := aP o) (f := D.2.1.1) (q := D.2.1.2.1) (sp := D.2.1.2.2.1) (rg := D.2.1.2.2.2.1) (wd := D.2.1.2.2.2.2.1) (it := D.2.1.2.2.2.2.2) (f2 := f) (q2 := D.1.1) (sp2 := D.1.2.1) (rg2 := D.1.2.2.1) (wd2 := D.1.2.2.2.1) (it2 := D.1.2.2.2.2)) ⟨rfl, rfl, by decide, by decide, Nat.le_refl _, Nat.le_refl _⟩ rfl 3 17 rfl rfl [17, 18, 19, 20, 21, 22, 23, 24, 25, 1, 2, 3, 4, 5, 6, 7, 8, 9] (by decide) rfl rfl rfl (Nat.le_of_ble_eq_true rfl) dX10_plays_23 (fun _ H1 hk hP1 => WX.back h [17, 18, 19, 20, 21, 22, 23, 24, 25, 1, 2, 3, 4, 5, 6, 7, 8, 9] rfl hk hP1 (fit_TP (D := D))) (fun _ => rfl) (fun u H locs hq h => ?_)
    refine lv_iconst (v := nI 1) hx hb dX10_plays_26 (by decide) ?_
    refine lv_istore_n hx hb dX10_plays_27 rfl hl (by decide) rfl (fun ls hl => ?_)
    have lp28 : ∀ (kf : Nat) (n : Nat) (j1 : JF) (H : Heap) (locs : List Loc) (ls : Array Slot) (hn : n ≤ 300) (hc : ∀ i, i ≤ n → its (goF f i) jx 3 = its f jx 3), 301 - n < kf → WX G A s H locs (wC G o f st tb tn nu bi si kp g (D.1, (goF f n, j1), D.2.2)) → lv_has ls 3 [(0, .ref (o 0)), (1, .int (nI jx)), (2, .int (nI (n + 1)))] → W p l e (RM 6 113) s m args below meth c H locs 0 0 Q (F0 m 28 ls []) := by
      intro kf
      induction kf with
      | zero => intro n j1 H locs ls hn hc hm; exact absurd hm (Nat.not_lt_zero _)
      | succ kf ih28 =>
        intro n j1 H locs ls hn hc hm h hl
        have hI9 := goF_inv hI n (by omega)
        have h09 := goF_0 f n
        have hI8 : Inv (minF (goF f n)) := goF_inv hI (n + 1) (by omega)
        refine lv_iload_n hx hb dX10_plays_28 rfl (lv_at hl 2 rfl) ?_
        refine lv_sipush (v := nI 300) hx hb dX10_plays_29 (by decide) ?_
        refine n_cgt hx hb (by omega) (by omega) (tgt := 71) dX10_plays_32 (by decide) (fun c32 => ?_) (fun c32 => ?_)
        ·
          refine lv_aload_n hx hb dX10_plays_71 rfl (lv_at hl 0 rfl) ?_
          refine lv_ldc (v := -1000000004) hx hb S0.2.2.2.1 (S0.2.2.2.2 _ (rin24 _ (List.mem_of_getElem? (i := 7) rfl))) dX10_plays_72 ?_
          refine cV_i0 S0 hG hA h hl.1 kw_RX10_58 kdV_X10_tell (c_X10_tell (k := 3) (by decide) (by decide)) ⟨rfl, rfl, by decide, by decide, Nat.le_refl _, Nat.le_refl _⟩ rfl 10 0 rfl rfl rfl (Nat.le_of_ble_eq_true rfl) dX10_plays_74 (fun _ => rfl) (fun r u H locs hq h => ?_)
          obtain rfl := hq
          exact hret _ (bump st 3, (D.1, (goF f n, j1), D.2.2)) _ _ _ _ (Or.inl ⟨b2, by rw [nt_nI jx2]; exact ⟨301, ⟨by omega, fun i hi q9 => q9 (hc i (by omega)), fun q9 => absurd q9 (by omega)⟩, Or.inr ⟨by omega, rfl, rfl⟩⟩⟩) h dX10_plays_77
        ·
          refine lv_aload_n hx hb dX10_plays_35 rfl (lv_at hl 0 rfl) ?_
          refine gC_trial S0 hG h dX10_plays_36 ?_
          refine cN_vC (w2 := fun u => wC G o f st tb tn nu bi si kp g (D.1, (minF (goF f n), u), D.2.2)) S0 hG hA h hl.1 (ws_ok (rin21 _ (List.mem_of_getElem? (i := 0) rfl))) (rin2 _ (List.mem_of_getElem? (i := 3) rfl)) (rin20 _ (List.mem_of_getElem? (i := 22) rfl)) (rin20 _ (List.mem_of_getElem? (i := 23) rfl)) (host := "ComposedInterval") (List.mem_of_getElem? (i := 56) rfl) kdS_X3_passMinute (c_X3_passMinute (a := aT o) (f := (goF f n)) (q := j1.1) (sp := j1.2.1) (rg := j1.2.2.1) (wd := j1.2.2.2.1) (it := j1.2.2.2.2) hI9 (by omega)) ⟨rfl, rfl, by decide, by decide, Nat.le_refl _, Nat.le_refl _⟩ rfl 3 17 rfl rfl [17, 18, 19, 20, 21, 22, 23, 24, 25, 10, 11, 12, 13, 14, 15, 16] (by decide) rfl rfl rfl (Nat.le_of_ble_eq_true rfl) dX10_plays_39 (fun _ H1 hk hP1 => WX.back h [17, 18, 19, 20, 21, 22, 23, 24, 25, 10, 11, 12, 13, 14, 15, 16] rfl hk hP1 (fit_T (D := (D.1, ((goF f n), j1), D.2.2)))) (fun _ => rfl) (fun u H locs hq h => ?_)
          obtain ⟨jg, rfl⟩ : ∃ z9, z9 = u := ⟨u, rfl⟩
          refine lv_aload_n hx hb dX10_plays_42 rfl (lv_at hl 0 rfl) ?_
          refine gC_trial S0 hG h dX10_plays_43 ?_
          refine kTg_played S0 hG h dX10_plays_46 ?_
          refine lv_iload_n hx hb dX10_plays_49 rfl (lv_at hl 1 rfl) ?_
          refine kTr_played S0 hG h (by omega) dX10_plays_50 ?_
          refine tN (t := its (minF (goF f n)) _ 3) rfl ?_
          refine lv_aload_n hx hb dX10_plays_51 rfl (lv_at hl 0 rfl) ?_
          refine gC_present S0 hG h dX10_plays_52 ?_
          refine kPg_played S0 hG h dX10_plays_55 ?_
          refine lv_iload_n hx hb dX10_plays_58 rfl (lv_at hl 1 rfl) ?_
          refine kPr_played S0 hG h (by omega) dX10_plays_59 ?_
          refine n_cle hx hb (by have := (hI8.2.2.2.2 jx (by omega)).2.2.2.1; have := (hI.2.2.2.2 jx (by omega)).2.2.2.1; omega) (by have := (hI8.2.2.2.2 jx (by omega)).2.2.2.1; have := (hI.2.2.2.2 jx (by omega)).2.2.2.1; omega) (tgt := 65) dX10_plays_60 (by decide) (fun c60 => ?_) (fun c60 => ?_)
          ·
            refine lv_iinc hx hb dX10_plays_65 hl (k := 2) rfl (inc_1 _) (by decide) rfl (fun ls hl => ?_)
            refine lv_goto (tgt := 28) hx hb dX10_plays_68 (by decide) ?_
            exact ih28 (n + 1) jg _ _ _ (by omega) (fun i hi => by by_cases e9 : i = n + 1; rw [e9]; exact Nat.le_antisymm c60 (goF_ge hI (by omega) (n + 1) (by omega)); exact hc i (by omega)) (by omega) h (lv_sub hl [1, 2, 0] rfl)
          ·
            refine lv_iload_n hx hb dX10_plays_63 rfl (lv_at hl 2 rfl) ?_
            exact hret _ (st, (D.1, (goF f (n + 1), jg), D.2.2)) _ _ _ _ (Or.inl ⟨b2, by rw [nt_nI jx2]; exact ⟨n + 1, ⟨by omega, fun i hi q9 => q9 (hc i (by omega)), fun _ => Nat.ne_of_gt c60⟩, Or.inl ⟨by omega, rfl, rfl⟩⟩⟩) h dX10_plays_64
    exact lp28 _ 0 D.2.1.2 _ _ _ (by omega) (fun i hi => by have e8 : i = 0 := Nat.le_zero.mp hi; rw [e8]; rfl) (Nat.lt_succ_self _) h (lv_sub hl [1, 2, 0] rfl)
