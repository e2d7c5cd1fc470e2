variable {G : GT} {l : Launch} {o : Nat → Nat} {f st tb : Row} {tn : Nat} {nu : Nat → Int64} {bi si : Row} {kp : Nat} {g : Row} {D : DT}
set_option maxHeartbeats 4000000 in
set_option maxRecDepth 100000 in
theorem c_X10_goesAsTold {x y : Nat} (hI : Inv D.2.1.1) (h0 : D.2.1.1 0 ≤ 150000) (hSh : ShI bi si) (hx1 : x < 4) (hy1 : y < 8) : Ki G l yX10_goesAsTold cX10_goesAsTold 4 (some .boolean) (RM 6 113) [.ref (o 0), .ref (o (38 + 2 * x)), .int (nI y)] (wC G o f st tb tn nu bi si kp g D) (fun u : Row × JF => wC G o f st tb tn nu bi si kp g (D.1, u, D.2.2)) (fun r _ => (r = nI 1 ∧ isBk D.2.1.1 nu x y (si x)) ∨ (r = nI 0 ∧ ¬ isBk D.2.1.1 nu x y (si x))) := by
  refine Ki.ofz (by decide) (Nat.le_of_ble_eq_true rfl) ?_
  intro p e s m args below meth c A Q ls hx hb S0 hG hA h hret hl
  have S0 : CF p m c cX10_goesAsTold 4 s args RX10 := S0
  have hl : lv_has ls 4 [(0, .ref (o 0)), (1, .ref (o (38 + 2 * x))), (2, .int (nI y))] := hl
  have s9 := hSh x hx1
  have lp2 : ∀ (kf : Nat) (i : Nat) (j1 : JF) (H : Heap) (locs : List Loc) (ls : Array Slot) (hi : i ≤ si x) (hn : ∀ j, j < i → nu (40 * x + j) = (nI (its (goF D.2.1.1 j) y 1)).toInt64), si x - i < kf → WX G A s H locs (wC G o f st tb tn nu bi si kp g (D.1, (goF D.2.1.1 i, j1), D.2.2)) → lv_has ls 4 [(0, .ref (o 0)), (1, .ref (o (38 + 2 * x))), (2, .int (nI y)), (3, .int (nI i))] → W p l e (RM 6 113) s m args below meth c H locs 0 0 Q (F0 m 2 ls []) := by
    intro kf
    induction kf with
    | zero => intro i j1 H locs ls hi hn hm; exact absurd hm (Nat.not_lt_zero _)
    | succ kf ih2 =>
      intro i j1 H locs ls hi hn hm h hl
      have hI9 := goF_inv hI i (by omega)
      have h09 := goF_0 D.2.1.1 i
      refine lv_iload_n hx hb dX10_goesAsTold_2 rfl (lv_at hl 3 rfl) ?_
      refine lv_aload_n hx hb dX10_goesAsTold_3 rfl (lv_at hl 1 rfl) ?_
      refine gSh_size (x := x) (by omega) S0 hG h dX10_goesAsTold_4 ?_
      refine n_cge hx hb (by omega) (by omega) (tgt := 45) dX10_goesAsTold_7 (by decide) (fun c7 => ?_) (fun c7 => ?_)
      ·
        refine lv_iconst (v := nI 1) hx hb dX10_goesAsTold_45 (by decide) ?_
        exact hret _ (goF D.2.1.1 i, j1) _ _ _ _ (by decide) (Or.inl ⟨rfl, fun j hj => hn j (by omega)⟩) h dX10_goesAsTold_46
      ·
        refine lv_aload_n hx hb dX10_goesAsTold_10 rfl (lv_at hl 1 rfl) ?_
        refine gSh_numbers (x := x) (by omega) S0 hG h dX10_goesAsTold_11 ?_
        refine lv_iload_n hx hb dX10_goesAsTold_14 rfl (lv_at hl 3 rfl) ?_
        refine rSh_numbers (by omega) S0 hG h (by omega) dX10_goesAsTold_15 ?_
        refine lv_aload_n hx hb dX10_goesAsTold_16 rfl (lv_at hl 0 rfl) ?_
        refine gC_trial S0 hG h dX10_goesAsTold_17 ?_
        refine kTg_at S0 hG h dX10_goesAsTold_20 ?_
        refine lv_iload_n hx hb dX10_goesAsTold_23 rfl (lv_at hl 2 rfl) ?_
        refine kTr_at S0 hG h (by omega) dX10_goesAsTold_24 ?_
        refine tN (t := its (goF D.2.1.1 i) _ 1) rfl ?_
        refine lv_i2l hx hb dX10_goesAsTold_25 rfl ?_
        refine W.lcmp hx hb dX10_goesAsTold_26 ?_
        refine lv_if_eq hx hb (tgt := 32) dX10_goesAsTold_27 (by decide) (fun c27 => ?_) (fun c27 => ?_)
        ·
          have c27 := (lg_cmp_eq _ _).mp c27
          refine lv_aload_n hx hb dX10_goesAsTold_32 rfl (lv_at hl 0 rfl) ?_
          refine gC_trial S0 hG h dX10_goesAsTold_33 ?_
          refine cN_vC (w2 := fun u => wC G o f st tb tn nu bi si kp g (D.1, (minF (goF D.2.1.1 i), u), D.2.2)) S0 hG hA h hl.1 (ws_ok (rin21 _ (List.mem_of_getElem? (i := 0) rfl))) (rin2 _ (List.mem_of_getElem? (i := 3) rfl)) (rin20 _ (List.mem_of_getElem? (i := 22) rfl)) (rin20 _ (List.mem_of_getElem? (i := 23) rfl)) (host := "ComposedInterval") (List.mem_of_getElem? (i := 56) rfl) kdS_X3_passMinute (c_X3_passMinute (a := aT o) (f := (goF D.2.1.1 i)) (q := j1.1) (sp := j1.2.1) (rg := j1.2.2.1) (wd := j1.2.2.2.1) (it := j1.2.2.2.2) hI9 (by omega)) ⟨rfl, rfl, by decide, by decide, Nat.le_refl _, Nat.le_refl _⟩ rfl 3 17 rfl rfl [17, 18, 19, 20, 21, 22, 23, 24, 25, 10, 11, 12, 13, 14, 15, 16] (by decide) rfl rfl rfl (Nat.le_of_ble_eq_true rfl) dX10_goesAsTold_36 (fun _ H1 hk hP1 => WX.back h [17, 18, 19, 20, 21, 22, 23, 24, 25, 10, 11, 12, 13, 14, 15, 16] rfl hk hP1 (fit_T (D := (D.1, ((goF D.2.1.1 i), j1), D.2.2)))) (fun _ => rfl) (fun u H locs hq h => ?_)
          obtain ⟨jg, rfl⟩ : ∃ z9, z9 = u := ⟨u, rfl⟩
          refine lv_iinc hx hb dX10_goesAsTold_39 hl (k := 3) rfl (inc_1 _) (by decide) rfl (fun ls hl => ?_)
          refine lv_goto (tgt := 2) hx hb dX10_goesAsTold_42 (by decide) ?_
          exact ih2 (i + 1) jg _ _ _ (by omega) (fun j hj => by by_cases e9 : j = i; rw [e9]; exact c27; exact hn j (by omega)) (by omega) h (lv_sub hl [1, 2, 3, 0] rfl)
        ·
          have c27 := fun z9 => c27 ((lg_cmp_eq _ _).mpr z9)
          refine lv_iconst (v := nI 0) hx hb dX10_goesAsTold_30 (by decide) ?_
          exact hret _ (goF D.2.1.1 i, j1) _ _ _ _ (by decide) (Or.inr ⟨rfl, fun q => c27 (q i (by omega))⟩) h dX10_goesAsTold_31
  refine lv_iconst (v := nI 0) hx hb dX10_goesAsTold_0 (by decide) ?_
  refine lv_istore_n hx hb dX10_goesAsTold_1 rfl hl (by decide) rfl (fun ls hl => ?_)
  exact lp2 _ 0 D.2.1.2 _ _ _ (Nat.zero_le _) (fun j q => absurd q (Nat.not_lt_zero _)) (Nat.lt_succ_self _) h (lv_sub hl [1, 2, 3, 0] rfl)
