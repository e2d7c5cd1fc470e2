variable {G : GT} {l : Launch} {o : Nat → Nat} {f st tb : Row} {tn : Nat} {nu : Nat → Int64} {bi si : Row} {kp : Nat} {g : Row} {D : DT}
theorem kw_RX10_224 : GoodIn wsL_law (wsV RX10 224 RX10 yX10_goesAsTold (WS yX10_goesAsTold cX10_goesAsTold 4 (some .boolean))) := gV (rin39 _ (List.mem_of_getElem? (i := 5) rfl)) (rin39 _ (List.mem_of_getElem? (i := 6) rfl)) (rin39 _ (List.mem_of_getElem? (i := 7) rfl)) (rin1 _ (List.mem_of_getElem? (i := 2) rfl)) (rin39 _ (List.mem_of_getElem? (i := 8) rfl))
theorem kdV_X10_goesAsTold : yX10_goesAsTold.cls = RX10 ∧ yX10_goesAsTold.cls ≠ "java/lang/invoke/MethodHandle" ∧ yX10_goesAsTold.cls ≠ "java/lang/invoke/VarHandle" ∧ (parseMethodDescriptor yX10_goesAsTold.desc).map (fun d => d.parameters.length) = some 2 := ⟨rfl, by decide +kernel, by decide +kernel, by decide +kernel⟩
set_option maxHeartbeats 4000000 in
set_option maxRecDepth 100000 in
theorem c_X10_read {x y : Int32} (hI : Inv f) (h0 : f 0 ≤ 99999) (hSh : ShI bi si) : Ki G l yX10_read cX10_read 7 (some .int) (RM 7 136) [.ref (o 0), .int x, .int y] (wC G o f st tb tn nu bi si kp g D) (fun u : Row × DT => wC G o f u.1 tb tn nu bi si kp g u.2) (fun r u => P_read f bi si nu st x y r u.1) := by
  refine Ki.of (by decide) (Nat.le_of_ble_eq_true rfl) ?_
  intro p e s m args below meth c A Q ls hx hb S0 hG hA h hret hl
  have S0 : CF p m c cX10_read 7 s args RX10 := S0
  have hl : lv_has ls 7 [(0, .ref (o 0)), (1, .int x), (2, .int y)] := hl
  have h8 := hI.2.1
  refine lv_aload_n hx hb dX10_read_0 rfl (lv_at hl 0 rfl) ?_
  refine lv_iload_n hx hb dX10_read_1 rfl (lv_at hl 1 rfl) ?_
  refine cV_i0 S0 hG hA h hl.1 kw_RX10_194 kdV_X10_sheetFinding (c_X10_sheetFinding hSh) ⟨rfl, rfl, by decide, by decide, Nat.le_refl _, Nat.le_refl _⟩ rfl 10 0 rfl rfl rfl (Nat.le_of_ble_eq_true rfl) dX10_read_2 (fun _ => rfl) (fun r u H locs hq h => ?_)
  rcases hq with ⟨rfl, b2⟩ | ⟨rfl, b2, m2⟩ | ⟨rfl, b2, m2⟩
  ·
    refine lv_istore_n hx hb dX10_read_5 rfl hl (by decide) rfl (fun ls hl => ?_)
    refine lv_iload_n hx hb dX10_read_6 rfl (lv_at hl 0 rfl) ?_
    refine lv_if_eq hx hb (tgt := 16) dX10_read_7 (by decide) (fun c7 => absurd c7 (by decide)) (fun c7 => ?_)
    refine lv_aload_n hx hb dX10_read_10 rfl (lv_at hl 1 rfl) ?_
    refine lv_iload_n hx hb dX10_read_11 rfl (lv_at hl 0 rfl) ?_
    refine cV_i0 S0 hG hA h hl.1 kw_RX10_58 kdV_X10_tell (c_X10_tell (k := 0) (by decide) (by decide)) ⟨rfl, rfl, by decide, by decide, Nat.le_refl _, Nat.le_refl _⟩ rfl 10 0 rfl rfl rfl (Nat.le_of_ble_eq_true rfl) dX10_read_12 (fun _ => rfl) (fun r u H locs hq h => ?_)
    obtain rfl := hq
    exact hret _ (bump st 0, D) _ _ _ _ (Or.inl ⟨b2, rfl, rfl⟩) h dX10_read_15
  ·
    refine lv_istore_n hx hb dX10_read_5 rfl hl (by decide) rfl (fun ls hl => ?_)
    refine lv_iload_n hx hb dX10_read_6 rfl (lv_at hl 0 rfl) ?_
    refine lv_if_eq hx hb (tgt := 16) dX10_read_7 (by decide) (fun c7 => absurd c7 (by decide)) (fun c7 => ?_)
    refine lv_aload_n hx hb dX10_read_10 rfl (lv_at hl 1 rfl) ?_
    refine lv_iload_n hx hb dX10_read_11 rfl (lv_at hl 0 rfl) ?_
    refine cV_i0 S0 hG hA h hl.1 kw_RX10_58 kdV_X10_tell (c_X10_tell (k := 5) (by decide) (by decide)) ⟨rfl, rfl, by decide, by decide, Nat.le_refl _, Nat.le_refl _⟩ rfl 10 0 rfl rfl rfl (Nat.le_of_ble_eq_true rfl) dX10_read_12 (fun _ => rfl) (fun r u H locs hq h => ?_)
    obtain rfl := hq
    exact hret _ (bump st 5, D) _ _ _ _ (Or.inr (Or.inl ⟨⟨b2, m2⟩, rfl, rfl⟩)) h dX10_read_15
  ·
    obtain ⟨jx, rfl, jx1, jx2⟩ := inR_nat b2
    rw [nt_nI jx2] at m2
    have s9 := hSh jx (by omega)
    refine lv_istore_n hx hb dX10_read_5 rfl hl (by decide) rfl (fun ls hl => ?_)
    refine lv_iload_n hx hb dX10_read_6 rfl (lv_at hl 0 rfl) ?_
    refine n_zeq hx hb (by decide) (tgt := 16) dX10_read_7 (by decide) (fun _ => ?_) (fun q => absurd q (by decide))
    refine lv_aload_n hx hb dX10_read_16 rfl (lv_at hl 1 rfl) ?_
    refine lv_iload_n hx hb dX10_read_17 rfl (lv_at hl 3 rfl) ?_
    refine cV_i0 S0 hG hA h hl.1 kw_RX10_106 kdV_X10_isNobody (c_X10_isNobody hI.2.1) ⟨rfl, rfl, by decide, by decide, Nat.le_refl _, Nat.le_refl _⟩ rfl 10 0 rfl rfl rfl (Nat.le_of_ble_eq_true rfl) dX10_read_18 (fun _ => rfl) (fun r u H locs hq h => ?_)
    rcases hq with ⟨rfl, b18⟩ | ⟨rfl, b18⟩
    ·
      refine n_zeq hx hb (by decide) (tgt := 31) dX10_read_21 (by decide) (fun q => absurd q (by decide)) (fun _ => ?_)
      refine lv_aload_n hx hb dX10_read_24 rfl (lv_at hl 1 rfl) ?_
      refine lv_ldc (v := -1000000001) hx hb S0.2.2.2.1 (S0.2.2.2.2 _ (rin6 _ (List.mem_of_getElem? (i := 6) rfl))) dX10_read_25 ?_
      refine cV_i0 S0 hG hA h hl.1 kw_RX10_58 kdV_X10_tell (c_X10_tell (k := 0) (by decide) (by decide)) ⟨rfl, rfl, by decide, by decide, Nat.le_refl _, Nat.le_refl _⟩ rfl 10 0 rfl rfl rfl (Nat.le_of_ble_eq_true rfl) dX10_read_27 (fun _ => rfl) (fun r u H locs hq h => ?_)
      obtain rfl := hq
      exact hret _ (bump st 0, D) _ _ _ _ (Or.inr (Or.inr ⟨⟨b2, by rw [nt_nI jx2]; exact m2⟩, Or.inr ⟨b18, rfl, rfl⟩⟩)) h dX10_read_30
    ·
      obtain ⟨jy, rfl, jy1, jy2⟩ := inR_nat (hi := (f 1 : Int) - 1) b18
      refine n_zeq hx hb (by decide) (tgt := 31) dX10_read_21 (by decide) (fun _ => ?_) (fun q => absurd q (by decide))
      refine lv_iconst (v := nI 0) hx hb dX10_read_31 (by decide) ?_
      refine lv_istore hx hb dX10_read_32 hl (by decide) rfl (fun ls hl => ?_)
      refine lv_iconst (v := nI 0) hx hb dX10_read_34 (by decide) ?_
      refine lv_istore hx hb dX10_read_35 hl (by decide) rfl (fun ls hl => ?_)
      have lp37 : ∀ (kf : Nat) (k pr : Nat) (d1 : Row × JF) (H : Heap) (locs : List Loc) (ls : Array Slot) (hk : k ≤ 6) (hpr : pr = prN f nu jx jy (si jx) (4 * k)), 6 - k < kf → WX G A s H locs (wC G o f st tb tn nu bi si kp g (D.1, d1, D.2.2)) → lv_has ls 7 [(0, .ref (o 0)), (1, .int (nI jx)), (2, .int (nI jy)), (4, .int (nI pr)), (5, .int (nI k))] → W p l e (RM 7 136) s m args below meth c H locs 0 0 Q (F0 m 37 ls []) := by
        intro kf
        induction kf with
        | zero => intro k pr d1 H locs ls hk hpr hm; exact absurd hm (Nat.not_lt_zero _)
        | succ kf ih37 =>
          intro k pr d1 H locs ls hk hpr hm h hl
          refine lv_iload hx hb dX10_read_37 (lv_at hl 4 rfl) ?_
          refine lv_bipush (v := nI 6) hx hb dX10_read_39 (by decide) ?_
          refine n_cge hx hb (by omega) (by omega) (tgt := 115) dX10_read_41 (by decide) (fun c41 => ?_) (fun c41 => ?_)
          ·
            refine lv_iload hx hb dX10_read_115 (lv_at hl 3 rfl) ?_
            obtain rfl : k = 6 := by omega
            exact hret _ (st, (D.1, d1, D.2.2)) _ _ _ _ (Or.inr (Or.inr ⟨⟨b2, by rw [nt_nI jx2]; exact m2⟩, Or.inl ⟨b18, by rw [nt_nI jx2, nt_nI jy2, hpr], rfl⟩⟩)) h dX10_read_117
          ·
            refine lv_iconst (v := nI 1) hx hb dX10_read_44 (by decide) ?_
            refine lv_istore hx hb dX10_read_45 hl (by decide) rfl (fun ls hl => ?_)
            have lp47 : ∀ (kf : Nat) (q p2 : Nat) (d2 : Row × JF) (H : Heap) (locs : List Loc) (ls : Array Slot) (hq : 1 ≤ q ∧ q ≤ 5) (hp2 : p2 = prN f nu jx jy (si jx) (4 * k + (q - 1))), 5 - q < kf → WX G A s H locs (wC G o f st tb tn nu bi si kp g (D.1, d2, D.2.2)) → lv_has ls 7 [(0, .ref (o 0)), (1, .int (nI jx)), (2, .int (nI jy)), (4, .int (nI p2)), (5, .int (nI k)), (6, .int (nI q))] → W p l e (RM 7 136) s m args below meth c H locs 0 0 Q (F0 m 47 ls []) := by
              intro kf
              induction kf with
              | zero => intro q p2 d2 H locs ls hq hp2 hm; exact absurd hm (Nat.not_lt_zero _)
              | succ kf ih47 =>
                intro q p2 d2 H locs ls hq hp2 hm h hl
                refine lv_iload hx hb dX10_read_47 (lv_at hl 5 rfl) ?_
                refine lv_iconst (v := nI 4) hx hb dX10_read_49 (by decide) ?_
                refine n_cgt hx hb (by omega) (by omega) (tgt := 109) dX10_read_50 (by decide) (fun c50 => ?_) (fun c50 => ?_)
                ·
                  refine lv_iinc hx hb dX10_read_109 hl (k := 4) rfl (inc_1 _) (by decide) rfl (fun ls hl => ?_)
                  refine lv_goto (tgt := 37) hx hb dX10_read_112 (by decide) ?_
                  exact ih37 (k + 1) p2 d2 _ _ _ (by omega) (by obtain rfl : q = 5 := (by omega); exact hp2) (by omega) h (lv_sub hl [1, 2, 3, 4, 0] rfl)
                ·
                  refine lv_aload_n hx hb dX10_read_53 rfl (lv_at hl 0 rfl) ?_
                  refine gC_trial S0 hG h dX10_read_54 ?_
                  refine lv_aload_n hx hb dX10_read_57 rfl (lv_at hl 0 rfl) ?_
                  refine gC_present S0 hG h dX10_read_58 ?_
                  refine cN_vC (w2 := fun u => wC G o f st tb tn nu bi si kp g (D.1, (f, d2.2), D.2.2)) S0 hG hA h hl.1 (ws_ok (rin22 _ (List.mem_of_getElem? (i := 18) rfl))) (rin2 _ (List.mem_of_getElem? (i := 3) rfl)) (rin22 _ (List.mem_of_getElem? (i := 16) rfl)) (rin22 _ (List.mem_of_getElem? (i := 17) rfl)) (host := "ComposedInterval") (List.mem_of_getElem? (i := 55) rfl) kdS_X3_become (c_X3_become (a := aT o) (b := aP o) (f := d2.1) (q := d2.2.1) (sp := d2.2.2.1) (rg := d2.2.2.2.1) (wd := d2.2.2.2.2.1) (it := d2.2.2.2.2.2) (f2 := f) (q2 := D.1.1) (sp2 := D.1.2.1) (rg2 := D.1.2.2.1) (wd2 := D.1.2.2.2.1) (it2 := D.1.2.2.2.2)) ⟨rfl, rfl, by decide, by decide, Nat.le_refl _, Nat.le_refl _⟩ rfl 3 17 rfl rfl [17, 18, 19, 20, 21, 22, 23, 24, 25, 1, 2, 3, 4, 5, 6, 7, 8, 9] (by decide) rfl rfl rfl (Nat.le_of_ble_eq_true rfl) dX10_read_61 (fun _ H1 hk hP1 => WX.back h [17, 18, 19, 20, 21, 22, 23, 24, 25, 1, 2, 3, 4, 5, 6, 7, 8, 9] rfl hk hP1 (fit_TP (D := (D.1, d2, D.2.2)))) (fun _ => rfl) (fun u H locs hq h => ?_)
                  refine lv_aload_n hx hb dX10_read_64 rfl (lv_at hl 0 rfl) ?_
                  refine gC_trial S0 hG h dX10_read_65 ?_
                  refine kTg_kind S0 hG h dX10_read_68 ?_
                  refine lv_iload_n hx hb dX10_read_71 rfl (lv_at hl 2 rfl) ?_
                  refine lv_iload hx hb dX10_read_72 (lv_at hl 4 rfl) ?_
                  refine kTs_kind S0 hG h (by omega) dX10_read_74 (fun H locs h => ?_)
                  refine lv_aload_n hx hb dX10_read_75 rfl (lv_at hl 0 rfl) ?_
                  refine gC_trial S0 hG h dX10_read_76 ?_
                  refine kTg_quick S0 hG h dX10_read_79 ?_
                  refine lv_iload_n hx hb dX10_read_82 rfl (lv_at hl 2 rfl) ?_
                  refine lv_iload hx hb dX10_read_83 (lv_at hl 5 rfl) ?_
                  refine kTs_quick S0 hG h (by omega) dX10_read_85 (fun H locs h => ?_)
                  have h : WX G A s H locs (wC G o f st tb tn nu bi si kp g (D.1, ((asK f jy k q), d2.2), D.2.2)) := h
                  have k9 := asK_inv (p := jy) hI (show k ≤ 5 by omega) (show q ≤ 4 by omega)
                  refine lv_aload_n hx hb dX10_read_86 rfl (lv_at hl 0 rfl) ?_
                  refine lv_aload_n hx hb dX10_read_87 rfl (lv_at hl 0 rfl) ?_
                  refine gC_sheets S0 hG h dX10_read_88 ?_
                  refine lv_iload_n hx hb dX10_read_91 rfl (lv_at hl 1 rfl) ?_
                  refine aC_sheets S0 hG h (by omega) dX10_read_92 ?_
                  refine lv_iload_n hx hb dX10_read_93 rfl (lv_at hl 2 rfl) ?_
                  refine cV_i0 S0 hG hA h hl.1 kw_RX10_224 kdV_X10_goesAsTold (c_X10_goesAsTold (D := (D.1, ((asK f jy k q), d2.2), D.2.2)) k9 (by show (asK f jy k q) 0 ≤ 150000; rw [asK_lo (by omega)]; omega) hSh (by omega) (by omega)) ⟨rfl, rfl, by decide, by decide, Nat.le_refl _, Nat.le_refl _⟩ rfl 10 0 rfl rfl rfl (Nat.le_of_ble_eq_true rfl) dX10_read_94 (fun _ => rfl) (fun r u H locs hq h => ?_)
                  rcases hq with ⟨rfl, b94⟩ | ⟨rfl, b94⟩
                  ·
                    refine n_zeq hx hb (by decide) (tgt := 103) dX10_read_97 (by decide) (fun q => absurd q (by decide)) (fun _ => ?_)
                    refine lv_iinc hx hb dX10_read_100 hl (k := 3) rfl (inc_1 _) (by decide) rfl (fun ls hl => ?_)
                    refine lv_iinc hx hb dX10_read_103 hl (k := 5) rfl (inc_1 _) (by decide) rfl (fun ls hl => ?_)
                    refine lv_goto (tgt := 47) hx hb dX10_read_106 (by decide) ?_
                    exact ih47 (q + 1) (p2 + 1) u _ _ _ (by omega) (by rw [hp2]; exact pr_t (by omega) b94) (by omega) h (lv_sub hl [2, 3, 4, 1, 5, 0] rfl)
                  ·
                    refine n_zeq hx hb (by decide) (tgt := 103) dX10_read_97 (by decide) (fun _ => ?_) (fun q => absurd q (by decide))
                    refine lv_iinc hx hb dX10_read_103 hl (k := 5) rfl (inc_1 _) (by decide) rfl (fun ls hl => ?_)
                    refine lv_goto (tgt := 47) hx hb dX10_read_106 (by decide) ?_
                    exact ih47 (q + 1) p2 u _ _ _ (by omega) (by rw [hp2]; exact pr_f (by omega) b94) (by omega) h (lv_sub hl [1, 2, 3, 4, 5, 0] rfl)
            exact lp47 _ 1 pr d1 _ _ _ (by omega) hpr (Nat.lt_succ_self _) h (lv_sub hl [1, 2, 3, 4, 5, 0] rfl)
      exact lp37 _ 0 0 D.2.1 _ _ _ (by omega) rfl (Nat.lt_succ_self _) h (lv_sub hl [3, 4, 5, 1, 0] rfl)
