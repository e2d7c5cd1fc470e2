variable {G : GT} {l : Launch} {o : Nat → Nat} {f st tb : Row} {tn : Nat} {nu : Nat → Int64} {bi si : Row} {kp : Nat} {g : Row} {D : DT}
set_option maxHeartbeats 4000000 in
set_option maxRecDepth 100000 in
theorem c_X10_isOfKind {x y : Nat} (hx1 : x ≤ 5) (hy1 : y ≤ 5) : Ki G l yX10_isOfKind cX10_isOfKind 4 (some .boolean) (RM 1 0) [.int (nI x), .int (nI y)] ([]) (fun u : Unit => []) (fun r _ => (r = nI 1 ∧ under x y) ∨ (r = nI 0 ∧ ¬ under x y)) := by
  refine Ki.ofz (by decide) (Nat.le_of_ble_eq_true rfl) ?_
  intro p e s m args below meth c A Q ls hx hb S0 hG hA h hret hl
  have S0 : CF p m c cX10_isOfKind 4 s args RX10 := S0
  have hl : lv_has ls 4 [(0, .int (nI x)), (1, .int (nI y))] := hl
  rcases (show x = 0 ∨ x = 1 ∨ x = 2 ∨ x = 3 ∨ x = 4 ∨ x = 5 by omega) with rfl | rfl | rfl | rfl | rfl | rfl
  ·
    refine lv_iload_n hx hb dX10_isOfKind_0 rfl (lv_at hl 0 rfl) ?_
    refine lv_istore_n hx hb dX10_isOfKind_1 rfl hl (by decide) rfl (fun ls hl => ?_)
    refine lv_iconst (v := nI 0) hx hb dX10_isOfKind_2 (by decide) ?_
    refine lv_istore_n hx hb dX10_isOfKind_3 rfl hl (by decide) rfl (fun ls hl => ?_)
    refine lv_iload_n hx hb dX10_isOfKind_4 rfl (lv_at hl 0 rfl) ?_
    refine lv_bipush (v := nI 6) hx hb dX10_isOfKind_5 (by decide) ?_
    refine n_cge hx hb (by decide) (by decide) (tgt := 39) dX10_isOfKind_7 (by decide) (fun q => absurd q (by decide)) (fun _ => ?_)
    refine lv_iload_n hx hb dX10_isOfKind_10 rfl (lv_at hl 1 rfl) ?_
    refine n_zlt hx hb (by decide) (tgt := 39) dX10_isOfKind_11 (by decide) ?_
    refine lv_iload_n hx hb dX10_isOfKind_14 rfl (lv_at hl 1 rfl) ?_
    refine lv_bipush (v := nI 6) hx hb dX10_isOfKind_15 (by decide) ?_
    refine n_cge hx hb (by decide) (by decide) (tgt := 39) dX10_isOfKind_17 (by decide) (fun q => absurd q (by decide)) (fun _ => ?_)
    refine lv_iload_n hx hb dX10_isOfKind_20 rfl (lv_at hl 1 rfl) ?_
    refine lv_iload_n hx hb dX10_isOfKind_21 rfl (lv_at hl 3 rfl) ?_
    refine n_cne hx hb (by omega) (by omega) (tgt := 27) dX10_isOfKind_22 (by decide) (fun c22 => ?_) (fun c22 => ?_)
    ·
      refine va_gets hx hb hG.2.2.2.1 h.2.2 S0.2.2.2.1 (S0.2.2.2.2 _ (rin20 _ (List.mem_of_getElem? (i := 3) rfl))) (fun _ q => q) dX10_isOfKind_27 ?_
      refine lv_iload_n hx hb dX10_isOfKind_30 rfl (lv_at hl 1 rfl) ?_
      refine va_ti hx hb hG.2.2.2.2.1 h.2.2 (vp_in_nI (show 0 < 6 by decide) (by decide)) (v := .int (-1)) (by rw [cl_nI (show 0 < 6 by decide) (by decide)]; rfl) dX10_isOfKind_31 ?_
      refine lv_istore_n hx hb dX10_isOfKind_32 rfl hl (by decide) rfl (fun ls hl => ?_)
      refine lv_iinc hx hb dX10_isOfKind_33 hl (k := 1) rfl (inc_1 _) (by decide) rfl (fun ls hl => ?_)
      refine lv_goto (tgt := 4) hx hb dX10_isOfKind_36 (by decide) ?_
      refine lv_iload_n hx hb dX10_isOfKind_4 rfl (lv_at hl 0 rfl) ?_
      refine lv_bipush (v := nI 6) hx hb dX10_isOfKind_5 (by decide) ?_
      refine n_cge hx hb (by omega) (by omega) (tgt := 39) dX10_isOfKind_7 (by decide) (fun c7 => absurd c7 (by omega)) (fun c7 => ?_)
      refine lv_iload_n hx hb dX10_isOfKind_10 rfl (lv_at hl 1 rfl) ?_
      refine lv_if_lt hx hb (tgt := 39) dX10_isOfKind_11 (by decide) (fun c11 => ?_) (fun c11 => absurd (show (-1 : Int32) < 0 by decide) c11)
      refine lv_iconst (v := nI 0) hx hb dX10_isOfKind_39 (by decide) ?_
      exact hret _ () _ _ _ _ (by decide) (Or.inr ⟨rfl, by unfold under; omega⟩) h dX10_isOfKind_40
    ·
      refine lv_iconst (v := nI 1) hx hb dX10_isOfKind_25 (by decide) ?_
      exact hret _ () _ _ _ _ (by decide) (Or.inl ⟨rfl, by unfold under; omega⟩) h dX10_isOfKind_26
  ·
    refine lv_iload_n hx hb dX10_isOfKind_0 rfl (lv_at hl 0 rfl) ?_
    refine lv_istore_n hx hb dX10_isOfKind_1 rfl hl (by decide) rfl (fun ls hl => ?_)
    refine lv_iconst (v := nI 0) hx hb dX10_isOfKind_2 (by decide) ?_
    refine lv_istore_n hx hb dX10_isOfKind_3 rfl hl (by decide) rfl (fun ls hl => ?_)
    refine lv_iload_n hx hb dX10_isOfKind_4 rfl (lv_at hl 0 rfl) ?_
    refine lv_bipush (v := nI 6) hx hb dX10_isOfKind_5 (by decide) ?_
    refine n_cge hx hb (by decide) (by decide) (tgt := 39) dX10_isOfKind_7 (by decide) (fun q => absurd q (by decide)) (fun _ => ?_)
    refine lv_iload_n hx hb dX10_isOfKind_10 rfl (lv_at hl 1 rfl) ?_
    refine n_zlt hx hb (by decide) (tgt := 39) dX10_isOfKind_11 (by decide) ?_
    refine lv_iload_n hx hb dX10_isOfKind_14 rfl (lv_at hl 1 rfl) ?_
    refine lv_bipush (v := nI 6) hx hb dX10_isOfKind_15 (by decide) ?_
    refine n_cge hx hb (by decide) (by decide) (tgt := 39) dX10_isOfKind_17 (by decide) (fun q => absurd q (by decide)) (fun _ => ?_)
    refine lv_iload_n hx hb dX10_isOfKind_20 rfl (lv_at hl 1 rfl) ?_
    refine lv_iload_n hx hb dX10_isOfKind_21 rfl (lv_at hl 3 rfl) ?_
    refine n_cne hx hb (by omega) (by omega) (tgt := 27) dX10_isOfKind_22 (by decide) (fun c22 => ?_) (fun c22 => ?_)
    ·
      refine va_gets hx hb hG.2.2.2.1 h.2.2 S0.2.2.2.1 (S0.2.2.2.2 _ (rin20 _ (List.mem_of_getElem? (i := 3) rfl))) (fun _ q => q) dX10_isOfKind_27 ?_
      refine lv_iload_n hx hb dX10_isOfKind_30 rfl (lv_at hl 1 rfl) ?_
      refine va_ti hx hb hG.2.2.2.2.1 h.2.2 (vp_in_nI (show 1 < 6 by decide) (by decide)) (v := .int (nI 0)) (by rw [cl_nI (show 1 < 6 by decide) (by decide)]; rfl) dX10_isOfKind_31 ?_
      refine lv_istore_n hx hb dX10_isOfKind_32 rfl hl (by decide) rfl (fun ls hl => ?_)
      refine lv_iinc hx hb dX10_isOfKind_33 hl (k := 1) rfl (inc_1 _) (by decide) rfl (fun ls hl => ?_)
      refine lv_goto (tgt := 4) hx hb dX10_isOfKind_36 (by decide) ?_
      refine lv_iload_n hx hb dX10_isOfKind_4 rfl (lv_at hl 0 rfl) ?_
      refine lv_bipush (v := nI 6) hx hb dX10_isOfKind_5 (by decide) ?_
      refine n_cge hx hb (by omega) (by omega) (tgt := 39) dX10_isOfKind_7 (by decide) (fun c7 => absurd c7 (by omega)) (fun c7 => ?_)
      refine lv_iload_n hx hb dX10_isOfKind_10 rfl (lv_at hl 1 rfl) ?_
      refine n_zlt hx hb (by decide) (tgt := 39) dX10_isOfKind_11 (by decide) ?_
      refine lv_iload_n hx hb dX10_isOfKind_14 rfl (lv_at hl 1 rfl) ?_
      refine lv_bipush (v := nI 6) hx hb dX10_isOfKind_15 (by decide) ?_
      refine n_cge hx hb (by decide) (by decide) (tgt := 39) dX10_isOfKind_17 (by decide) (fun q => absurd q (by decide)) (fun _ => ?_)
      refine lv_iload_n hx hb dX10_isOfKind_20 rfl (lv_at hl 1 rfl) ?_
      refine lv_iload_n hx hb dX10_isOfKind_21 rfl (lv_at hl 3 rfl) ?_
      refine n_cne hx hb (by omega) (by omega) (tgt := 27) dX10_isOfKind_22 (by decide) (fun c22 => ?_) (fun c22 => ?_)
      ·
        refine va_gets hx hb hG.2.2.2.1 h.2.2 S0.2.2.2.1 (S0.2.2.2.2 _ (rin20 _ (List.mem_of_getElem? (i := 3) rfl))) (fun _ q => q) dX10_isOfKind_27 ?_
        refine lv_iload_n hx hb dX10_isOfKind_30 rfl (lv_at hl 1 rfl) ?_
        refine va_ti hx hb hG.2.2.2.2.1 h.2.2 (vp_in_nI (show 0 < 6 by decide) (by decide)) (v := .int (-1)) (by rw [cl_nI (show 0 < 6 by decide) (by decide)]; rfl) dX10_isOfKind_31 ?_
        refine lv_istore_n hx hb dX10_isOfKind_32 rfl hl (by decide) rfl (fun ls hl => ?_)
        refine lv_iinc hx hb dX10_isOfKind_33 hl (k := 1) rfl (inc_1 _) (by decide) rfl (fun ls hl => ?_)
        refine lv_goto (tgt := 4) hx hb dX10_isOfKind_36 (by decide) ?_
        refine lv_iload_n hx hb dX10_isOfKind_4 rfl (lv_at hl 0 rfl) ?_
        refine lv_bipush (v := nI 6) hx hb dX10_isOfKind_5 (by decide) ?_
        refine n_cge hx hb (by omega) (by omega) (tgt := 39) dX10_isOfKind_7 (by decide) (fun c7 => absurd c7 (by omega)) (fun c7 => ?_)
        refine lv_iload_n hx hb dX10_isOfKind_10 rfl (lv_at hl 1 rfl) ?_
        refine lv_if_lt hx hb (tgt := 39) dX10_isOfKind_11 (by decide) (fun c11 => ?_) (fun c11 => absurd (show (-1 : Int32) < 0 by decide) c11)
        refine lv_iconst (v := nI 0) hx hb dX10_isOfKind_39 (by decide) ?_
        exact hret _ () _ _ _ _ (by decide) (Or.inr ⟨rfl, by unfold under; omega⟩) h dX10_isOfKind_40
      ·
        refine lv_iconst (v := nI 1) hx hb dX10_isOfKind_25 (by decide) ?_
        exact hret _ () _ _ _ _ (by decide) (Or.inl ⟨rfl, by unfold under; omega⟩) h dX10_isOfKind_26
    ·
      refine lv_iconst (v := nI 1) hx hb dX10_isOfKind_25 (by decide) ?_
      exact hret _ () _ _ _ _ (by decide) (Or.inl ⟨rfl, by unfold under; omega⟩) h dX10_isOfKind_26
  ·
    refine lv_iload_n hx hb dX10_isOfKind_0 rfl (lv_at hl 0 rfl) ?_
    refine lv_istore_n hx hb dX10_isOfKind_1 rfl hl (by decide) rfl (fun ls hl => ?_)
    refine lv_iconst (v := nI 0) hx hb dX10_isOfKind_2 (by decide) ?_
    refine lv_istore_n hx hb dX10_isOfKind_3 rfl hl (by decide) rfl (fun ls hl => ?_)
    refine lv_iload_n hx hb dX10_isOfKind_4 rfl (lv_at hl 0 rfl) ?_
    refine lv_bipush (v := nI 6) hx hb dX10_isOfKind_5 (by decide) ?_
    refine n_cge hx hb (by decide) (by decide) (tgt := 39) dX10_isOfKind_7 (by decide) (fun q => absurd q (by decide)) (fun _ => ?_)
    refine lv_iload_n hx hb dX10_isOfKind_10 rfl (lv_at hl 1 rfl) ?_
    refine n_zlt hx hb (by decide) (tgt := 39) dX10_isOfKind_11 (by decide) ?_
    refine lv_iload_n hx hb dX10_isOfKind_14 rfl (lv_at hl 1 rfl) ?_
    refine lv_bipush (v := nI 6) hx hb dX10_isOfKind_15 (by decide) ?_
    refine n_cge hx hb (by decide) (by decide) (tgt := 39) dX10_isOfKind_17 (by decide) (fun q => absurd q (by decide)) (fun _ => ?_)
    refine lv_iload_n hx hb dX10_isOfKind_20 rfl (lv_at hl 1 rfl) ?_
    refine lv_iload_n hx hb dX10_isOfKind_21 rfl (lv_at hl 3 rfl) ?_
    refine n_cne hx hb (by omega) (by omega) (tgt := 27) dX10_isOfKind_22 (by decide) (fun c22 => ?_) (fun c22 => ?_)
    ·
      refine va_gets hx hb hG.2.2.2.1 h.2.2 S0.2.2.2.1 (S0.2.2.2.2 _ (rin20 _ (List.mem_of_getElem? (i := 3) rfl))) (fun _ q => q) dX10_isOfKind_27 ?_
      refine lv_iload_n hx hb dX10_isOfKind_30 rfl (lv_at hl 1 rfl) ?_
      refine va_ti hx hb hG.2.2.2.2.1 h.2.2 (vp_in_nI (show 2 < 6 by decide) (by decide)) (v := .int (nI 0)) (by rw [cl_nI (show 2 < 6 by decide) (by decide)]; rfl) dX10_isOfKind_31 ?_
      refine lv_istore_n hx hb dX10_isOfKind_32 rfl hl (by decide) rfl (fun ls hl => ?_)
      refine lv_iinc hx hb dX10_isOfKind_33 hl (k := 1) rfl (inc_1 _) (by decide) rfl (fun ls hl => ?_)
      refine lv_goto (tgt := 4) hx hb dX10_isOfKind_36 (by decide) ?_
      refine lv_iload_n hx hb dX10_isOfKind_4 rfl (lv_at hl 0 rfl) ?_
      refine lv_bipush (v := nI 6) hx hb dX10_isOfKind_5 (by decide) ?_
      refine n_cge hx hb (by omega) (by omega) (tgt := 39) dX10_isOfKind_7 (by decide) (fun c7 => absurd c7 (by omega)) (fun c7 => ?_)
      refine lv_iload_n hx hb dX10_isOfKind_10 rfl (lv_at hl 1 rfl) ?_
      refine n_zlt hx hb (by decide) (tgt := 39) dX10_isOfKind_11 (by decide) ?_
      refine lv_iload_n hx hb dX10_isOfKind_14 rfl (lv_at hl 1 rfl) ?_
      refine lv_bipush (v := nI 6) hx hb dX10_isOfKind_15 (by decide) ?_
      refine n_cge hx hb (by decide) (by decide) (tgt := 39) dX10_isOfKind_17 (by decide) (fun q => absurd q (by decide)) (fun _ => ?_)
      refine lv_iload_n hx hb dX10_isOfKind_20 rfl (lv_at hl 1 rfl) ?_
      refine lv_iload_n hx hb dX10_isOfKind_21 rfl (lv_at hl 3 rfl) ?_
      refine n_cne hx hb (by omega) (by omega) (tgt := 27) dX10_isOfKind_22 (by decide) (fun c22 => ?_) (fun c22 => ?_)
      ·
        refine va_gets hx hb hG.2.2.2.1 h.2.2 S0.2.2.2.1 (S0.2.2.2.2 _ (rin20 _ (List.mem_of_getElem? (i := 3) rfl))) (fun _ q => q) dX10_isOfKind_27 ?_
        refine lv_iload_n hx hb dX10_isOfKind_30 rfl (lv_at hl 1 rfl) ?_
        refine va_ti hx hb hG.2.2.2.2.1 h.2.2 (vp_in_nI (show 0 < 6 by decide) (by decide)) (v := .int (-1)) (by rw [cl_nI (show 0 < 6 by decide) (by decide)]; rfl) dX10_isOfKind_31 ?_
        refine lv_istore_n hx hb dX10_isOfKind_32 rfl hl (by decide) rfl (fun ls hl => ?_)
        refine lv_iinc hx hb dX10_isOfKind_33 hl (k := 1) rfl (inc_1 _) (by decide) rfl (fun ls hl => ?_)
        refine lv_goto (tgt := 4) hx hb dX10_isOfKind_36 (by decide) ?_
        refine lv_iload_n hx hb dX10_isOfKind_4 rfl (lv_at hl 0 rfl) ?_
        refine lv_bipush (v := nI 6) hx hb dX10_isOfKind_5 (by decide) ?_
        refine n_cge hx hb (by omega) (by omega) (tgt := 39) dX10_isOfKind_7 (by decide) (fun c7 => absurd c7 (by omega)) (fun c7 => ?_)
        refine lv_iload_n hx hb dX10_isOfKind_10 rfl (lv_at hl 1 rfl) ?_
        refine lv_if_lt hx hb (tgt := 39) dX10_isOfKind_11 (by decide) (fun c11 => ?_) (fun c11 => absurd (show (-1 : Int32) < 0 by decide) c11)
        refine lv_iconst (v := nI 0) hx hb dX10_isOfKind_39 (by decide) ?_
        exact hret _ () _ _ _ _ (by decide) (Or.inr ⟨rfl, by unfold under; omega⟩) h dX10_isOfKind_40
      ·
        refine lv_iconst (v := nI 1) hx hb dX10_isOfKind_25 (by decide) ?_
        exact hret _ () _ _ _ _ (by decide) (Or.inl ⟨rfl, by unfold under; omega⟩) h dX10_isOfKind_26
    ·
      refine lv_iconst (v := nI 1) hx hb dX10_isOfKind_25 (by decide) ?_
      exact hret _ () _ _ _ _ (by decide) (Or.inl ⟨rfl, by unfold under; omega⟩) h dX10_isOfKind_26
  ·
    refine lv_iload_n hx hb dX10_isOfKind_0 rfl (lv_at hl 0 rfl) ?_
    refine lv_istore_n hx hb dX10_isOfKind_1 rfl hl (by decide) rfl (fun ls hl => ?_)
    refine lv_iconst (v := nI 0) hx hb dX10_isOfKind_2 (by decide) ?_
    refine lv_istore_n hx hb dX10_isOfKind_3 rfl hl (by decide) rfl (fun ls hl => ?_)
    refine lv_iload_n hx hb dX10_isOfKind_4 rfl (lv_at hl 0 rfl) ?_
    refine lv_bipush (v := nI 6) hx hb dX10_isOfKind_5 (by decide) ?_
    refine n_cge hx hb (by decide) (by decide) (tgt := 39) dX10_isOfKind_7 (by decide) (fun q => absurd q (by decide)) (fun _ => ?_)
    refine lv_iload_n hx hb dX10_isOfKind_10 rfl (lv_at hl 1 rfl) ?_
    refine n_zlt hx hb (by decide) (tgt := 39) dX10_isOfKind_11 (by decide) ?_
    refine lv_iload_n hx hb dX10_isOfKind_14 rfl (lv_at hl 1 rfl) ?_
    refine lv_bipush (v := nI 6) hx hb dX10_isOfKind_15 (by decide) ?_
    refine n_cge hx hb (by decide) (by decide) (tgt := 39) dX10_isOfKind_17 (by decide) (fun q => absurd q (by decide)) (fun _ => ?_)
    refine lv_iload_n hx hb dX10_isOfKind_20 rfl (lv_at hl 1 rfl) ?_
    refine lv_iload_n hx hb dX10_isOfKind_21 rfl (lv_at hl 3 rfl) ?_
    refine n_cne hx hb (by omega) (by omega) (tgt := 27) dX10_isOfKind_22 (by decide) (fun c22 => ?_) (fun c22 => ?_)
    ·
      refine va_gets hx hb hG.2.2.2.1 h.2.2 S0.2.2.2.1 (S0.2.2.2.2 _ (rin20 _ (List.mem_of_getElem? (i := 3) rfl))) (fun _ q => q) dX10_isOfKind_27 ?_
      refine lv_iload_n hx hb dX10_isOfKind_30 rfl (lv_at hl 1 rfl) ?_
      refine va_ti hx hb hG.2.2.2.2.1 h.2.2 (vp_in_nI (show 3 < 6 by decide) (by decide)) (v := .int (nI 0)) (by rw [cl_nI (show 3 < 6 by decide) (by decide)]; rfl) dX10_isOfKind_31 ?_
      refine lv_istore_n hx hb dX10_isOfKind_32 rfl hl (by decide) rfl (fun ls hl => ?_)
      refine lv_iinc hx hb dX10_isOfKind_33 hl (k := 1) rfl (inc_1 _) (by decide) rfl (fun ls hl => ?_)
      refine lv_goto (tgt := 4) hx hb dX10_isOfKind_36 (by decide) ?_
      refine lv_iload_n hx hb dX10_isOfKind_4 rfl (lv_at hl 0 rfl) ?_
      refine lv_bipush (v := nI 6) hx hb dX10_isOfKind_5 (by decide) ?_
      refine n_cge hx hb (by omega) (by omega) (tgt := 39) dX10_isOfKind_7 (by decide) (fun c7 => absurd c7 (by omega)) (fun c7 => ?_)
      refine lv_iload_n hx hb dX10_isOfKind_10 rfl (lv_at hl 1 rfl) ?_
      refine n_zlt hx hb (by decide) (tgt := 39) dX10_isOfKind_11 (by decide) ?_
      refine lv_iload_n hx hb dX10_isOfKind_14 rfl (lv_at hl 1 rfl) ?_
      refine lv_bipush (v := nI 6) hx hb dX10_isOfKind_15 (by decide) ?_
      refine n_cge hx hb (by decide) (by decide) (tgt := 39) dX10_isOfKind_17 (by decide) (fun q => absurd q (by decide)) (fun _ => ?_)
      refine lv_iload_n hx hb dX10_isOfKind_20 rfl (lv_at hl 1 rfl) ?_
      refine lv_iload_n hx hb dX10_isOfKind_21 rfl (lv_at hl 3 rfl) ?_
      refine n_cne hx hb (by omega) (by omega) (tgt := 27) dX10_isOfKind_22 (by decide) (fun c22 => ?_) (fun c22 => ?_)
      ·
        refine va_gets hx hb hG.2.2.2.1 h.2.2 S0.2.2.2.1 (S0.2.2.2.2 _ (rin20 _ (List.mem_of_getElem? (i := 3) rfl))) (fun _ q => q) dX10_isOfKind_27 ?_
        refine lv_iload_n hx hb dX10_isOfKind_30 rfl (lv_at hl 1 rfl) ?_
        refine va_ti hx hb hG.2.2.2.2.1 h.2.2 (vp_in_nI (show 0 < 6 by decide) (by decide)) (v := .int (-1)) (by rw [cl_nI (show 0 < 6 by decide) (by decide)]; rfl) dX10_isOfKind_31 ?_
        refine lv_istore_n hx hb dX10_isOfKind_32 rfl hl (by decide) rfl (fun ls hl => ?_)
        refine lv_iinc hx hb dX10_isOfKind_33 hl (k := 1) rfl (inc_1 _) (by decide) rfl (fun ls hl => ?_)
        refine lv_goto (tgt := 4) hx hb dX10_isOfKind_36 (by decide) ?_
        refine lv_iload_n hx hb dX10_isOfKind_4 rfl (lv_at hl 0 rfl) ?_
        refine lv_bipush (v := nI 6) hx hb dX10_isOfKind_5 (by decide) ?_
        refine n_cge hx hb (by omega) (by omega) (tgt := 39) dX10_isOfKind_7 (by decide) (fun c7 => absurd c7 (by omega)) (fun c7 => ?_)
        refine lv_iload_n hx hb dX10_isOfKind_10 rfl (lv_at hl 1 rfl) ?_
        refine lv_if_lt hx hb (tgt := 39) dX10_isOfKind_11 (by decide) (fun c11 => ?_) (fun c11 => absurd (show (-1 : Int32) < 0 by decide) c11)
        refine lv_iconst (v := nI 0) hx hb dX10_isOfKind_39 (by decide) ?_
        exact hret _ () _ _ _ _ (by decide) (Or.inr ⟨rfl, by unfold under; omega⟩) h dX10_isOfKind_40
      ·
        refine lv_iconst (v := nI 1) hx hb dX10_isOfKind_25 (by decide) ?_
        exact hret _ () _ _ _ _ (by decide) (Or.inl ⟨rfl, by unfold under; omega⟩) h dX10_isOfKind_26
    ·
      refine lv_iconst (v := nI 1) hx hb dX10_isOfKind_25 (by decide) ?_
      exact hret _ () _ _ _ _ (by decide) (Or.inl ⟨rfl, by unfold under; omega⟩) h dX10_isOfKind_26
  ·
    refine lv_iload_n hx hb dX10_isOfKind_0 rfl (lv_at hl 0 rfl) ?_
    refine lv_istore_n hx hb dX10_isOfKind_1 rfl hl (by decide) rfl (fun ls hl => ?_)
    refine lv_iconst (v := nI 0) hx hb dX10_isOfKind_2 (by decide) ?_
    refine lv_istore_n hx hb dX10_isOfKind_3 rfl hl (by decide) rfl (fun ls hl => ?_)
    refine lv_iload_n hx hb dX10_isOfKind_4 rfl (lv_at hl 0 rfl) ?_
    refine lv_bipush (v := nI 6) hx hb dX10_isOfKind_5 (by decide) ?_
    refine n_cge hx hb (by decide) (by decide) (tgt := 39) dX10_isOfKind_7 (by decide) (fun q => absurd q (by decide)) (fun _ => ?_)
    refine lv_iload_n hx hb dX10_isOfKind_10 rfl (lv_at hl 1 rfl) ?_
    refine n_zlt hx hb (by decide) (tgt := 39) dX10_isOfKind_11 (by decide) ?_
    refine lv_iload_n hx hb dX10_isOfKind_14 rfl (lv_at hl 1 rfl) ?_
    refine lv_bipush (v := nI 6) hx hb dX10_isOfKind_15 (by decide) ?_
    refine n_cge hx hb (by decide) (by decide) (tgt := 39) dX10_isOfKind_17 (by decide) (fun q => absurd q (by decide)) (fun _ => ?_)
    refine lv_iload_n hx hb dX10_isOfKind_20 rfl (lv_at hl 1 rfl) ?_
    refine lv_iload_n hx hb dX10_isOfKind_21 rfl (lv_at hl 3 rfl) ?_
    refine n_cne hx hb (by omega) (by omega) (tgt := 27) dX10_isOfKind_22 (by decide) (fun c22 => ?_) (fun c22 => ?_)
    ·
      refine va_gets hx hb hG.2.2.2.1 h.2.2 S0.2.2.2.1 (S0.2.2.2.2 _ (rin20 _ (List.mem_of_getElem? (i := 3) rfl))) (fun _ q => q) dX10_isOfKind_27 ?_
      refine lv_iload_n hx hb dX10_isOfKind_30 rfl (lv_at hl 1 rfl) ?_
      refine va_ti hx hb hG.2.2.2.2.1 h.2.2 (vp_in_nI (show 4 < 6 by decide) (by decide)) (v := .int (nI 2)) (by rw [cl_nI (show 4 < 6 by decide) (by decide)]; rfl) dX10_isOfKind_31 ?_
      refine lv_istore_n hx hb dX10_isOfKind_32 rfl hl (by decide) rfl (fun ls hl => ?_)
      refine lv_iinc hx hb dX10_isOfKind_33 hl (k := 1) rfl (inc_1 _) (by decide) rfl (fun ls hl => ?_)
      refine lv_goto (tgt := 4) hx hb dX10_isOfKind_36 (by decide) ?_
      refine lv_iload_n hx hb dX10_isOfKind_4 rfl (lv_at hl 0 rfl) ?_
      refine lv_bipush (v := nI 6) hx hb dX10_isOfKind_5 (by decide) ?_
      refine n_cge hx hb (by omega) (by omega) (tgt := 39) dX10_isOfKind_7 (by decide) (fun c7 => absurd c7 (by omega)) (fun c7 => ?_)
      refine lv_iload_n hx hb dX10_isOfKind_10 rfl (lv_at hl 1 rfl) ?_
      refine n_zlt hx hb (by decide) (tgt := 39) dX10_isOfKind_11 (by decide) ?_
      refine lv_iload_n hx hb dX10_isOfKind_14 rfl (lv_at hl 1 rfl) ?_
      refine lv_bipush (v := nI 6) hx hb dX10_isOfKind_15 (by decide) ?_
      refine n_cge hx hb (by decide) (by decide) (tgt := 39) dX10_isOfKind_17 (by decide) (fun q => absurd q (by decide)) (fun _ => ?_)
      refine lv_iload_n hx hb dX10_isOfKind_20 rfl (lv_at hl 1 rfl) ?_
      refine lv_iload_n hx hb dX10_isOfKind_21 rfl (lv_at hl 3 rfl) ?_
      refine n_cne hx hb (by omega) (by omega) (tgt := 27) dX10_isOfKind_22 (by decide) (fun c22 => ?_) (fun c22 => ?_)
      ·
        refine va_gets hx hb hG.2.2.2.1 h.2.2 S0.2.2.2.1 (S0.2.2.2.2 _ (rin20 _ (List.mem_of_getElem? (i := 3) rfl))) (fun _ q => q) dX10_isOfKind_27 ?_
        refine lv_iload_n hx hb dX10_isOfKind_30 rfl (lv_at hl 1 rfl) ?_
        refine va_ti hx hb hG.2.2.2.2.1 h.2.2 (vp_in_nI (show 2 < 6 by decide) (by decide)) (v := .int (nI 0)) (by rw [cl_nI (show 2 < 6 by decide) (by decide)]; rfl) dX10_isOfKind_31 ?_
        refine lv_istore_n hx hb dX10_isOfKind_32 rfl hl (by decide) rfl (fun ls hl => ?_)
        refine lv_iinc hx hb dX10_isOfKind_33 hl (k := 1) rfl (inc_1 _) (by decide) rfl (fun ls hl => ?_)
        refine lv_goto (tgt := 4) hx hb dX10_isOfKind_36 (by decide) ?_
        refine lv_iload_n hx hb dX10_isOfKind_4 rfl (lv_at hl 0 rfl) ?_
        refine lv_bipush (v := nI 6) hx hb dX10_isOfKind_5 (by decide) ?_
        refine n_cge hx hb (by omega) (by omega) (tgt := 39) dX10_isOfKind_7 (by decide) (fun c7 => absurd c7 (by omega)) (fun c7 => ?_)
        refine lv_iload_n hx hb dX10_isOfKind_10 rfl (lv_at hl 1 rfl) ?_
        refine n_zlt hx hb (by decide) (tgt := 39) dX10_isOfKind_11 (by decide) ?_
        refine lv_iload_n hx hb dX10_isOfKind_14 rfl (lv_at hl 1 rfl) ?_
        refine lv_bipush (v := nI 6) hx hb dX10_isOfKind_15 (by decide) ?_
        refine n_cge hx hb (by decide) (by decide) (tgt := 39) dX10_isOfKind_17 (by decide) (fun q => absurd q (by decide)) (fun _ => ?_)
        refine lv_iload_n hx hb dX10_isOfKind_20 rfl (lv_at hl 1 rfl) ?_
        refine lv_iload_n hx hb dX10_isOfKind_21 rfl (lv_at hl 3 rfl) ?_
        refine n_cne hx hb (by omega) (by omega) (tgt := 27) dX10_isOfKind_22 (by decide) (fun c22 => ?_) (fun c22 => ?_)
        ·
          refine va_gets hx hb hG.2.2.2.1 h.2.2 S0.2.2.2.1 (S0.2.2.2.2 _ (rin20 _ (List.mem_of_getElem? (i := 3) rfl))) (fun _ q => q) dX10_isOfKind_27 ?_
          refine lv_iload_n hx hb dX10_isOfKind_30 rfl (lv_at hl 1 rfl) ?_
          refine va_ti hx hb hG.2.2.2.2.1 h.2.2 (vp_in_nI (show 0 < 6 by decide) (by decide)) (v := .int (-1)) (by rw [cl_nI (show 0 < 6 by decide) (by decide)]; rfl) dX10_isOfKind_31 ?_
          refine lv_istore_n hx hb dX10_isOfKind_32 rfl hl (by decide) rfl (fun ls hl => ?_)
          refine lv_iinc hx hb dX10_isOfKind_33 hl (k := 1) rfl (inc_1 _) (by decide) rfl (fun ls hl => ?_)
          refine lv_goto (tgt := 4) hx hb dX10_isOfKind_36 (by decide) ?_
          refine lv_iload_n hx hb dX10_isOfKind_4 rfl (lv_at hl 0 rfl) ?_
          refine lv_bipush (v := nI 6) hx hb dX10_isOfKind_5 (by decide) ?_
          refine n_cge hx hb (by omega) (by omega) (tgt := 39) dX10_isOfKind_7 (by decide) (fun c7 => absurd c7 (by omega)) (fun c7 => ?_)
          refine lv_iload_n hx hb dX10_isOfKind_10 rfl (lv_at hl 1 rfl) ?_
          refine lv_if_lt hx hb (tgt := 39) dX10_isOfKind_11 (by decide) (fun c11 => ?_) (fun c11 => absurd (show (-1 : Int32) < 0 by decide) c11)
          refine lv_iconst (v := nI 0) hx hb dX10_isOfKind_39 (by decide) ?_
          exact hret _ () _ _ _ _ (by decide) (Or.inr ⟨rfl, by unfold under; omega⟩) h dX10_isOfKind_40
        ·
          refine lv_iconst (v := nI 1) hx hb dX10_isOfKind_25 (by decide) ?_
          exact hret _ () _ _ _ _ (by decide) (Or.inl ⟨rfl, by unfold under; omega⟩) h dX10_isOfKind_26
      ·
        refine lv_iconst (v := nI 1) hx hb dX10_isOfKind_25 (by decide) ?_
        exact hret _ () _ _ _ _ (by decide) (Or.inl ⟨rfl, by unfold under; omega⟩) h dX10_isOfKind_26
    ·
      refine lv_iconst (v := nI 1) hx hb dX10_isOfKind_25 (by decide) ?_
      exact hret _ () _ _ _ _ (by decide) (Or.inl ⟨rfl, by unfold under; omega⟩) h dX10_isOfKind_26
  ·
    refine lv_iload_n hx hb dX10_isOfKind_0 rfl (lv_at hl 0 rfl) ?_
    refine lv_istore_n hx hb dX10_isOfKind_1 rfl hl (by decide) rfl (fun ls hl => ?_)
    refine lv_iconst (v := nI 0) hx hb dX10_isOfKind_2 (by decide) ?_
    refine lv_istore_n hx hb dX10_isOfKind_3 rfl hl (by decide) rfl (fun ls hl => ?_)
    refine lv_iload_n hx hb dX10_isOfKind_4 rfl (lv_at hl 0 rfl) ?_
    refine lv_bipush (v := nI 6) hx hb dX10_isOfKind_5 (by decide) ?_
    refine n_cge hx hb (by decide) (by decide) (tgt := 39) dX10_isOfKind_7 (by decide) (fun q => absurd q (by decide)) (fun _ => ?_)
    refine lv_iload_n hx hb dX10_isOfKind_10 rfl (lv_at hl 1 rfl) ?_
    refine n_zlt hx hb (by decide) (tgt := 39) dX10_isOfKind_11 (by decide) ?_
    refine lv_iload_n hx hb dX10_isOfKind_14 rfl (lv_at hl 1 rfl) ?_
    refine lv_bipush (v := nI 6) hx hb dX10_isOfKind_15 (by decide) ?_
    refine n_cge hx hb (by decide) (by decide) (tgt := 39) dX10_isOfKind_17 (by decide) (fun q => absurd q (by decide)) (fun _ => ?_)
    refine lv_iload_n hx hb dX10_isOfKind_20 rfl (lv_at hl 1 rfl) ?_
    refine lv_iload_n hx hb dX10_isOfKind_21 rfl (lv_at hl 3 rfl) ?_
    refine n_cne hx hb (by omega) (by omega) (tgt := 27) dX10_isOfKind_22 (by decide) (fun c22 => ?_) (fun c22 => ?_)
    ·
      refine va_gets hx hb hG.2.2.2.1 h.2.2 S0.2.2.2.1 (S0.2.2.2.2 _ (rin20 _ (List.mem_of_getElem? (i := 3) rfl))) (fun _ q => q) dX10_isOfKind_27 ?_
      refine lv_iload_n hx hb dX10_isOfKind_30 rfl (lv_at hl 1 rfl) ?_
      refine va_ti hx hb hG.2.2.2.2.1 h.2.2 (vp_in_nI (show 5 < 6 by decide) (by decide)) (v := .int (nI 1)) (by rw [cl_nI (show 5 < 6 by decide) (by decide)]; rfl) dX10_isOfKind_31 ?_
      refine lv_istore_n hx hb dX10_isOfKind_32 rfl hl (by decide) rfl (fun ls hl => ?_)
      refine lv_iinc hx hb dX10_isOfKind_33 hl (k := 1) rfl (inc_1 _) (by decide) rfl (fun ls hl => ?_)
      refine lv_goto (tgt := 4) hx hb dX10_isOfKind_36 (by decide) ?_
      refine lv_iload_n hx hb dX10_isOfKind_4 rfl (lv_at hl 0 rfl) ?_
      refine lv_bipush (v := nI 6) hx hb dX10_isOfKind_5 (by decide) ?_
      refine n_cge hx hb (by omega) (by omega) (tgt := 39) dX10_isOfKind_7 (by decide) (fun c7 => absurd c7 (by omega)) (fun c7 => ?_)
      refine lv_iload_n hx hb dX10_isOfKind_10 rfl (lv_at hl 1 rfl) ?_
      refine n_zlt hx hb (by decide) (tgt := 39) dX10_isOfKind_11 (by decide) ?_
      refine lv_iload_n hx hb dX10_isOfKind_14 rfl (lv_at hl 1 rfl) ?_
      refine lv_bipush (v := nI 6) hx hb dX10_isOfKind_15 (by decide) ?_
      refine n_cge hx hb (by decide) (by decide) (tgt := 39) dX10_isOfKind_17 (by decide) (fun q => absurd q (by decide)) (fun _ => ?_)
      refine lv_iload_n hx hb dX10_isOfKind_20 rfl (lv_at hl 1 rfl) ?_
      refine lv_iload_n hx hb dX10_isOfKind_21 rfl (lv_at hl 3 rfl) ?_
      refine n_cne hx hb (by omega) (by omega) (tgt := 27) dX10_isOfKind_22 (by decide) (fun c22 => ?_) (fun c22 => ?_)
      ·
        refine va_gets hx hb hG.2.2.2.1 h.2.2 S0.2.2.2.1 (S0.2.2.2.2 _ (rin20 _ (List.mem_of_getElem? (i := 3) rfl))) (fun _ q => q) dX10_isOfKind_27 ?_
        refine lv_iload_n hx hb dX10_isOfKind_30 rfl (lv_at hl 1 rfl) ?_
        refine va_ti hx hb hG.2.2.2.2.1 h.2.2 (vp_in_nI (show 1 < 6 by decide) (by decide)) (v := .int (nI 0)) (by rw [cl_nI (show 1 < 6 by decide) (by decide)]; rfl) dX10_isOfKind_31 ?_
        refine lv_istore_n hx hb dX10_isOfKind_32 rfl hl (by decide) rfl (fun ls hl => ?_)
        refine lv_iinc hx hb dX10_isOfKind_33 hl (k := 1) rfl (inc_1 _) (by decide) rfl (fun ls hl => ?_)
        refine lv_goto (tgt := 4) hx hb dX10_isOfKind_36 (by decide) ?_
        refine lv_iload_n hx hb dX10_isOfKind_4 rfl (lv_at hl 0 rfl) ?_
        refine lv_bipush (v := nI 6) hx hb dX10_isOfKind_5 (by decide) ?_
        refine n_cge hx hb (by omega) (by omega) (tgt := 39) dX10_isOfKind_7 (by decide) (fun c7 => absurd c7 (by omega)) (fun c7 => ?_)
        refine lv_iload_n hx hb dX10_isOfKind_10 rfl (lv_at hl 1 rfl) ?_
        refine n_zlt hx hb (by decide) (tgt := 39) dX10_isOfKind_11 (by decide) ?_
        refine lv_iload_n hx hb dX10_isOfKind_14 rfl (lv_at hl 1 rfl) ?_
        refine lv_bipush (v := nI 6) hx hb dX10_isOfKind_15 (by decide) ?_
        refine n_cge hx hb (by decide) (by decide) (tgt := 39) dX10_isOfKind_17 (by decide) (fun q => absurd q (by decide)) (fun _ => ?_)
        refine lv_iload_n hx hb dX10_isOfKind_20 rfl (lv_at hl 1 rfl) ?_
        refine lv_iload_n hx hb dX10_isOfKind_21 rfl (lv_at hl 3 rfl) ?_
        refine n_cne hx hb (by omega) (by omega) (tgt := 27) dX10_isOfKind_22 (by decide) (fun c22 => ?_) (fun c22 => ?_)
        ·
          refine va_gets hx hb hG.2.2.2.1 h.2.2 S0.2.2.2.1 (S0.2.2.2.2 _ (rin20 _ (List.mem_of_getElem? (i := 3) rfl))) (fun _ q => q) dX10_isOfKind_27 ?_
          refine lv_iload_n hx hb dX10_isOfKind_30 rfl (lv_at hl 1 rfl) ?_
          refine va_ti hx hb hG.2.2.2.2.1 h.2.2 (vp_in_nI (show 0 < 6 by decide) (by decide)) (v := .int (-1)) (by rw [cl_nI (show 0 < 6 by decide) (by decide)]; rfl) dX10_isOfKind_31 ?_
          refine lv_istore_n hx hb dX10_isOfKind_32 rfl hl (by decide) rfl (fun ls hl => ?_)
          refine lv_iinc hx hb dX10_isOfKind_33 hl (k := 1) rfl (inc_1 _) (by decide) rfl (fun ls hl => ?_)
          refine lv_goto (tgt := 4) hx hb dX10_isOfKind_36 (by decide) ?_
          refine lv_iload_n hx hb dX10_isOfKind_4 rfl (lv_at hl 0 rfl) ?_
          refine lv_bipush (v := nI 6) hx hb dX10_isOfKind_5 (by decide) ?_
          refine n_cge hx hb (by omega) (by omega) (tgt := 39) dX10_isOfKind_7 (by decide) (fun c7 => absurd c7 (by omega)) (fun c7 => ?_)
          refine lv_iload_n hx hb dX10_isOfKind_10 rfl (lv_at hl 1 rfl) ?_
          refine lv_if_lt hx hb (tgt := 39) dX10_isOfKind_11 (by decide) (fun c11 => ?_) (fun c11 => absurd (show (-1 : Int32) < 0 by decide) c11)
          refine lv_iconst (v := nI 0) hx hb dX10_isOfKind_39 (by decide) ?_
          exact hret _ () _ _ _ _ (by decide) (Or.inr ⟨rfl, by unfold under; omega⟩) h dX10_isOfKind_40
        ·
          refine lv_iconst (v := nI 1) hx hb dX10_isOfKind_25 (by decide) ?_
          exact hret _ () _ _ _ _ (by decide) (Or.inl ⟨rfl, by unfold under; omega⟩) h dX10_isOfKind_26
      ·
        refine lv_iconst (v := nI 1) hx hb dX10_isOfKind_25 (by decide) ?_
        exact hret _ () _ _ _ _ (by decide) (Or.inl ⟨rfl, by unfold under; omega⟩) h dX10_isOfKind_26
    ·
      refine lv_iconst (v := nI 1) hx hb dX10_isOfKind_25 (by decide) ?_
      exact hret _ () _ _ _ _ (by decide) (Or.inl ⟨rfl, by unfold under; omega⟩) h dX10_isOfKind_26
