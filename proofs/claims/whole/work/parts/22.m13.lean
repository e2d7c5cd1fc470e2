/-! the reference: items -/
variable {G : GT} {l : Launch} {a : Nat → Nat} {f g o d st du tb bi si : Nat → Nat} {nu mo : Nat → Int64} {kp it tn fr to vl wr : Nat}
theorem iv_wGuest {tb : Row} {tn s : Nat} : wV tb tn s = 8033908 ↔ isW tb tn wGuest s := wV_iff wGuest (by decide) (by decide) (by decide) (by decide)
theorem iv_wEnemy {tb : Row} {tn s : Nat} : wV tb tn s = 5707193 ↔ isW tb tn wEnemy s := wV_iff wEnemy (by decide) (by decide) (by decide) (by decide)
theorem iv_wSinger {tb : Row} {tn s : Nat} : wV tb tn s = 647437490 ↔ isW tb tn wSinger s := wV_iff wSinger (by decide) (by decide) (by decide) (by decide)
theorem iv_wLate {tb : Row} {tn s : Nat} : wV tb tn s = 394885 ↔ isW tb tn wLate s := wV_iff wLate (by decide) (by decide) (by decide) (by decide)
theorem iv_wDiva {tb : Row} {tn s : Nat} : wV tb tn s = 140993 ↔ isW tb tn wDiva s := wV_iff wDiva (by decide) (by decide) (by decide) (by decide)
theorem iv_wRival {tb : Row} {tn s : Nat} : wV tb tn s = 19191852 ↔ isW tb tn wRival s := wV_iff wRival (by decide) (by decide) (by decide) (by decide)
theorem iv_wScore {tb : Row} {tn s : Nat} : wV tb tn s = 20037189 ↔ isW tb tn wScore s := wV_iff wScore (by decide) (by decide) (by decide) (by decide)
theorem iv_wBell {tb : Row} {tn s : Nat} : wV tb tn s = 71052 ↔ isW tb tn wBell s := wV_iff wBell (by decide) (by decide) (by decide) (by decide)
theorem iv_wQuick {tb : Row} {tn s : Nat} : wV tb tn s = 18523243 ↔ isW tb tn wQuick s := wV_iff wQuick (by decide) (by decide) (by decide) (by decide)
theorem kw_RX11_235 : GoodIn wsL_law (wsV RX11 235 RX11 yX11_word (WS yX11_word cX11_word 4 (some .long))) := gV (rin34 _ (List.mem_of_getElem? (i := 13) rfl)) (rin34 _ (List.mem_of_getElem? (i := 14) rfl)) (rin34 _ (List.mem_of_getElem? (i := 15) rfl)) (rin1 _ (List.mem_of_getElem? (i := 5) rfl)) (rin34 _ (List.mem_of_getElem? (i := 16) rfl))
theorem kdV_X11_word : yX11_word.cls = RX11 ∧ yX11_word.cls ≠ "java/lang/invoke/MethodHandle" ∧ yX11_word.cls ≠ "java/lang/invoke/VarHandle" ∧ (parseMethodDescriptor yX11_word.desc).map (fun d => d.parameters.length) = some 0 := ⟨rfl, by decide +kernel, by decide +kernel, by decide +kernel⟩
set_option maxHeartbeats 4000000 in
set_option maxRecDepth 100000 in
theorem c_X11_kindHere (hT : ∀ i, tb i < 256) (htn : tn ≤ 120) (hfr : fr ≤ tn) (hw : wr = 0) (hto : to = tkE tb tn fr) : Ki G l yX11_kindHere cX11_kindHere 3 (some .int) (RM 4 68) [.ref (a 0)] (wM G a f g o d st du tb bi si nu mo kp it tn fr to vl wr) (fun u : Unit => wM G a f g o d st du tb bi si nu mo kp it tn fr to vl wr) (fun r _ => (∃ k, k ≤ 5 ∧ r = nI k ∧ isW tb tn (kWord k) fr) ∨ (r = -1 ∧ ∀ k, k ≤ 5 → ¬ isW tb tn (kWord k) fr)) := by
  refine Ki.of (by decide) (Nat.le_of_ble_eq_true rfl) ?_
  intro p e s m args below meth c A Q ls hx hb S0 hG hA h hret hl
  have S0 : CF p m c cX11_kindHere 3 s args RX11 := S0
  have hl : lv_has ls 3 [(0, .ref (a 0))] := hl
  subst hto
  subst hw
  have t9 := tkE_le (tb := tb) hfr
  have f9 := nx_le (tb := tb) hfr
  refine lv_aload_n hx hb dX11_kindHere_0 rfl (lv_at hl 0 rfl) ?_
  refine cV_l0 S0 hG hA h hl.1 kw_RX11_235 kdV_X11_word (c_X11_word hT htn hfr rfl rfl) ⟨rfl, rfl, by decide, by decide, Nat.le_refl _, Nat.le_refl _⟩ rfl 11 0 rfl rfl rfl (Nat.le_of_ble_eq_true rfl) dX11_kindHere_1 (fun _ => rfl) (fun r u H locs hq h => ?_)
  obtain rfl := hq
  refine lv_lstore_n hx hb dX11_kindHere_4 rfl hl (by decide) rfl (fun ls hl => ?_)
  refine lv_lload_n hx hb dX11_kindHere_5 rfl (lv_at hl 0 rfl) ?_
  refine lv_ldc2 (v := 8033908) hx hb S0.2.2.2.1 (S0.2.2.2.2 _ (rin34 _ (List.mem_of_getElem? (i := 7) rfl))) dX11_kindHere_6 ?_
  refine W.lcmp hx hb dX11_kindHere_9 ?_
  refine lv_if_ne hx hb (tgt := 17) dX11_kindHere_10 (by decide) (fun c10 => ?_) (fun c10 => ?_)
  ·
    have c10 := fun z9 => c10 ((lg_cmp_eq _ _).mpr (iv_wGuest.mpr z9))
    refine lv_lload_n hx hb dX11_kindHere_17 rfl (lv_at hl 0 rfl) ?_
    refine lv_ldc2 (v := 5707193) hx hb S0.2.2.2.1 (S0.2.2.2.2 _ (rin34 _ (List.mem_of_getElem? (i := 8) rfl))) dX11_kindHere_18 ?_
    refine W.lcmp hx hb dX11_kindHere_21 ?_
    refine lv_if_ne hx hb (tgt := 29) dX11_kindHere_22 (by decide) (fun c22 => ?_) (fun c22 => ?_)
    ·
      have c22 := fun z9 => c22 ((lg_cmp_eq _ _).mpr (iv_wEnemy.mpr z9))
      refine lv_lload_n hx hb dX11_kindHere_29 rfl (lv_at hl 0 rfl) ?_
      refine lv_ldc2 (v := 647437490) hx hb S0.2.2.2.1 (S0.2.2.2.2 _ (rin34 _ (List.mem_of_getElem? (i := 9) rfl))) dX11_kindHere_30 ?_
      refine W.lcmp hx hb dX11_kindHere_33 ?_
      refine lv_if_ne hx hb (tgt := 41) dX11_kindHere_34 (by decide) (fun c34 => ?_) (fun c34 => ?_)
      ·
        have c34 := fun z9 => c34 ((lg_cmp_eq _ _).mpr (iv_wSinger.mpr z9))
        refine lv_lload_n hx hb dX11_kindHere_41 rfl (lv_at hl 0 rfl) ?_
        refine lv_ldc2 (v := 394885) hx hb S0.2.2.2.1 (S0.2.2.2.2 _ (rin34 _ (List.mem_of_getElem? (i := 10) rfl))) dX11_kindHere_42 ?_
        refine W.lcmp hx hb dX11_kindHere_45 ?_
        refine lv_if_ne hx hb (tgt := 53) dX11_kindHere_46 (by decide) (fun c46 => ?_) (fun c46 => ?_)
        ·
          have c46 := fun z9 => c46 ((lg_cmp_eq _ _).mpr (iv_wLate.mpr z9))
          refine lv_lload_n hx hb dX11_kindHere_53 rfl (lv_at hl 0 rfl) ?_
          refine lv_ldc2 (v := 140993) hx hb S0.2.2.2.1 (S0.2.2.2.2 _ (rin34 _ (List.mem_of_getElem? (i := 11) rfl))) dX11_kindHere_54 ?_
          refine W.lcmp hx hb dX11_kindHere_57 ?_
          refine lv_if_ne hx hb (tgt := 65) dX11_kindHere_58 (by decide) (fun c58 => ?_) (fun c58 => ?_)
          ·
            have c58 := fun z9 => c58 ((lg_cmp_eq _ _).mpr (iv_wDiva.mpr z9))
            refine lv_lload_n hx hb dX11_kindHere_65 rfl (lv_at hl 0 rfl) ?_
            refine lv_ldc2 (v := 19191852) hx hb S0.2.2.2.1 (S0.2.2.2.2 _ (rin34 _ (List.mem_of_getElem? (i := 12) rfl))) dX11_kindHere_66 ?_
            refine W.lcmp hx hb dX11_kindHere_69 ?_
            refine lv_if_ne hx hb (tgt := 77) dX11_kindHere_70 (by decide) (fun c70 => ?_) (fun c70 => ?_)
            ·
              have c70 := fun z9 => c70 ((lg_cmp_eq _ _).mpr (iv_wRival.mpr z9))
              refine lv_iconst (v := -1) hx hb dX11_kindHere_77 (by decide) ?_
              exact hret _ () _ _ _ _ (Or.inr ⟨rfl, fun k hk => by rcases (show k = 0 ∨ k = 1 ∨ k = 2 ∨ k = 3 ∨ k = 4 ∨ k = 5 by omega) with rfl | rfl | rfl | rfl | rfl | rfl; exact c10; exact c22; exact c34; exact c46; exact c58; exact c70⟩) h dX11_kindHere_78
            ·
              have c70 := iv_wRival.mp ((lg_cmp_eq _ _).mp c70)
              refine lv_iconst (v := nI 5) hx hb dX11_kindHere_73 (by decide) ?_
              refine lv_goto (tgt := 78) hx hb dX11_kindHere_74 (by decide) ?_
              exact hret _ () _ _ _ _ (Or.inl ⟨5, by decide, rfl, c70⟩) h dX11_kindHere_78
          ·
            have c58 := iv_wDiva.mp ((lg_cmp_eq _ _).mp c58)
            refine lv_iconst (v := nI 4) hx hb dX11_kindHere_61 (by decide) ?_
            refine lv_goto (tgt := 78) hx hb dX11_kindHere_62 (by decide) ?_
            exact hret _ () _ _ _ _ (Or.inl ⟨4, by decide, rfl, c58⟩) h dX11_kindHere_78
        ·
          have c46 := iv_wLate.mp ((lg_cmp_eq _ _).mp c46)
          refine lv_iconst (v := nI 3) hx hb dX11_kindHere_49 (by decide) ?_
          refine lv_goto (tgt := 78) hx hb dX11_kindHere_50 (by decide) ?_
          exact hret _ () _ _ _ _ (Or.inl ⟨3, by decide, rfl, c46⟩) h dX11_kindHere_78
      ·
        have c34 := iv_wSinger.mp ((lg_cmp_eq _ _).mp c34)
        refine lv_iconst (v := nI 2) hx hb dX11_kindHere_37 (by decide) ?_
        refine lv_goto (tgt := 78) hx hb dX11_kindHere_38 (by decide) ?_
        exact hret _ () _ _ _ _ (Or.inl ⟨2, by decide, rfl, c34⟩) h dX11_kindHere_78
    ·
      have c22 := iv_wEnemy.mp ((lg_cmp_eq _ _).mp c22)
      refine lv_iconst (v := nI 1) hx hb dX11_kindHere_25 (by decide) ?_
      refine lv_goto (tgt := 78) hx hb dX11_kindHere_26 (by decide) ?_
      exact hret _ () _ _ _ _ (Or.inl ⟨1, by decide, rfl, c22⟩) h dX11_kindHere_78
  ·
    have c10 := iv_wGuest.mp ((lg_cmp_eq _ _).mp c10)
    refine lv_iconst (v := nI 0) hx hb dX11_kindHere_13 (by decide) ?_
    refine lv_goto (tgt := 78) hx hb dX11_kindHere_14 (by decide) ?_
    exact hret _ () _ _ _ _ (Or.inl ⟨0, by decide, rfl, c10⟩) h dX11_kindHere_78
set_option maxHeartbeats 4000000 in
set_option maxRecDepth 100000 in
theorem c_X11_numberS {lo hi : Nat} (hw : wr = 1) : Kv G l yX11_number cX11_number 6 none (RM 5 88) [.ref (a 0), .int (nI lo), .int (nI hi)] (wM G a f g o d st du tb bi si nu mo kp it tn fr to vl wr) (fun u : Unit => wM G a f g o d st du tb bi si nu mo kp it tn fr to vl wr) (fun _ => True) := by
  refine Kv.of (by decide) (Nat.le_of_ble_eq_true rfl) ?_
  intro p e s m args below meth c A Q ls hx hb S0 hG hA h hret hl
  have S0 : CF p m c cX11_number 6 s args RX11 := S0
  have hl : lv_has ls 6 [(0, .ref (a 0)), (1, .int (nI lo)), (2, .int (nI hi))] := hl
  subst hw
  refine lv_aload_n hx hb dX11_number_0 rfl (lv_at hl 0 rfl) ?_
  refine gM_isWrong S0 hG h dX11_number_1 ?_
  refine n_zeq hx hb (by decide) (tgt := 8) dX11_number_4 (by decide) (fun c4 => absurd c4 (by decide)) (fun c4 => ?_)
  exact hret () _ _ _ _ trivial h dX11_number_7
theorem kw_RX11_251 : GoodIn wsL_law (wsV RX11 251 RX11 yX11_number (WS yX11_number cX11_number 6 none)) := gV (rin35 _ (List.mem_of_getElem? (i := 5) rfl)) (rin35 _ (List.mem_of_getElem? (i := 6) rfl)) (rin35 _ (List.mem_of_getElem? (i := 7) rfl)) (rin1 _ (List.mem_of_getElem? (i := 5) rfl)) (rin35 _ (List.mem_of_getElem? (i := 8) rfl))
theorem kdV_X11_number : yX11_number.cls = RX11 ∧ yX11_number.cls ≠ "java/lang/invoke/MethodHandle" ∧ yX11_number.cls ≠ "java/lang/invoke/VarHandle" ∧ (parseMethodDescriptor yX11_number.desc).map (fun d => d.parameters.length) = some 2 := ⟨rfl, by decide +kernel, by decide +kernel, by decide +kernel⟩
set_option maxHeartbeats 4000000 in
set_option maxRecDepth 100000 in
theorem c_X11_toldItem {x y z : Nat} (hT : ∀ i, tb i < 256) (htn : tn ≤ 120) (hfr : fr ≤ tn) (hw : wr = 0) (hto : to = tkE tb tn fr) (hx1 : x + y ≤ 51) (hy1 : 1 ≤ y) (hy2 : y ≤ 99) (hz1 : z ≤ 99) : Kv G l yX11_toldItem cX11_toldItem 5 none (RM 6 113) [.ref (a 0), .int (nI x), .int (nI y), .int (nI z)] (wM G a f g o d st du tb bi si nu mo kp it tn fr to vl wr) (fun u : (Nat → Nat) × Nat × Nat × Nat × Nat => wM G a u.1 g o d st du tb bi si nu mo kp it tn u.2.1 u.2.2.1 u.2.2.2.1 u.2.2.2.2) (fun u => Two tb tn f x (y - 1) z fr (u.2.2.2.2 = 0) u.1 u.2.1 ∧ (u.2.2.2.2 = 0 → u.2.2.1 = tkE tb tn u.2.1) ∧ u.2.2.2.2 ≤ 1 ∧ u.2.1 ≤ tn) := by
  refine Kv.of (by decide) (Nat.le_of_ble_eq_true rfl) ?_
  intro p e s m args below meth c A Q ls hx hb S0 hG hA h hret hl
  have S0 : CF p m c cX11_toldItem 5 s args RX11 := S0
  have hl : lv_has ls 5 [(0, .ref (a 0)), (1, .int (nI x)), (2, .int (nI y)), (3, .int (nI z))] := hl
  subst hto
  subst hw
  have t9 := tkE_le (tb := tb) hfr
  have f9 := nx_le (tb := tb) hfr
  refine lv_aload_n hx hb dX11_toldItem_0 rfl (lv_at hl 0 rfl) ?_
  refine lv_iconst (v := nI 1) hx hb dX11_toldItem_1 (by decide) ?_
  refine cV_v0 S0 hG hA h hl.1 kw_RX11_231 kdV_X11_must (c_X11_mustT hT htn hfr rfl rfl) ⟨rfl, rfl, by decide, by decide, Nat.le_refl _, Nat.le_refl _⟩ rfl 11 0 rfl rfl rfl (Nat.le_of_ble_eq_true rfl) dX11_toldItem_2 (fun _ => rfl) (fun u H locs hq h => ?_)
  have f8 := nx_le (tb := tb) f9
  have f7 := nx_le (tb := tb) f8
  have f6 := nx_le (tb := tb) f7
  refine lv_aload_n hx hb dX11_toldItem_5 rfl (lv_at hl 0 rfl) ?_
  refine lv_iconst (v := nI 0) hx hb dX11_toldItem_6 (by decide) ?_
  refine lv_iload_n hx hb dX11_toldItem_7 rfl (lv_at hl 2 rfl) ?_
  refine lv_iconst (v := nI 1) hx hb dX11_toldItem_8 (by decide) ?_
  refine n_sub hx hb (by omega) dX11_toldItem_9 ?_
  refine cV_v0 S0 hG hA h hl.1 kw_RX11_251 kdV_X11_number (c_X11_number hT htn f9 rfl rfl (by decide) (by omega)) ⟨rfl, rfl, by decide, by decide, Nat.le_refl _, Nat.le_refl _⟩ rfl 11 0 rfl rfl rfl (Nat.le_of_ble_eq_true rfl) dX11_toldItem_10 (fun _ => rfl) (fun u H locs hq h => ?_)
  rcases hq with ⟨n10, rfl⟩ | ⟨n10, zz10, rfl⟩
  ·
    have h : WX G A s _ _ (wM G a f g o d st du tb bi si nu mo kp it tn (nx tb tn (nx tb tn fr)) (tkE tb tn (nx tb tn (nx tb tn fr))) (val tb tn (nx tb tn fr)) 0) := h
    refine lv_aload_n hx hb dX11_toldItem_13 rfl (lv_at hl 0 rfl) ?_
    refine gM_value S0 hG h dX11_toldItem_14 ?_
    refine lv_istore hx hb dX11_toldItem_17 hl (by decide) rfl (fun ls hl => ?_)
    refine lv_aload_n hx hb dX11_toldItem_19 rfl (lv_at hl 1 rfl) ?_
    refine lv_iconst (v := nI 0) hx hb dX11_toldItem_20 (by decide) ?_
    refine lv_iload_n hx hb dX11_toldItem_21 rfl (lv_at hl 4 rfl) ?_
    refine cV_v0 S0 hG hA h hl.1 kw_RX11_251 kdV_X11_number (c_X11_number hT htn f8 rfl rfl (by decide) (by omega)) ⟨rfl, rfl, by decide, by decide, Nat.le_refl _, Nat.le_refl _⟩ rfl 11 0 rfl rfl rfl (Nat.le_of_ble_eq_true rfl) dX11_toldItem_22 (fun _ => rfl) (fun u H locs hq h => ?_)
    rcases hq with ⟨n22, rfl⟩ | ⟨n22, zz22, rfl⟩
    ·
      have h : WX G A s _ _ (wM G a f g o d st du tb bi si nu mo kp it tn (nx tb tn (nx tb tn (nx tb tn fr))) (tkE tb tn (nx tb tn (nx tb tn (nx tb tn fr)))) (val tb tn (nx tb tn (nx tb tn fr))) 0) := h
      refine lv_aload_n hx hb dX11_toldItem_25 rfl (lv_at hl 1 rfl) ?_
      refine gM_isWrong S0 hG h dX11_toldItem_26 ?_
      refine n_zne hx hb (by decide) (tgt := 45) dX11_toldItem_29 (by decide) (fun c29 => absurd c29 (by decide)) (fun c29 => ?_)
      refine lv_aload_n hx hb dX11_toldItem_32 rfl (lv_at hl 1 rfl) ?_
      refine gM_s S0 hG h dX11_toldItem_33 ?_
      refine lv_iload_n hx hb dX11_toldItem_36 rfl (lv_at hl 2 rfl) ?_
      refine lv_iload hx hb dX11_toldItem_37 (lv_at hl 0 rfl) ?_
      refine n_add hx hb dX11_toldItem_39 ?_
      refine lv_aload_n hx hb dX11_toldItem_40 rfl (lv_at hl 1 rfl) ?_
      refine gM_value S0 hG h dX11_toldItem_41 ?_
      refine sM_s S0 hG h (by have := n10.2.2; omega) dX11_toldItem_44 (fun H locs h => ?_)
      exact hret (va_up f (x + val tb tn (nx tb tn fr)) (val tb tn (nx tb tn (nx tb tn fr))), (nx tb tn (nx tb tn (nx tb tn fr))), (tkE tb tn (nx tb tn (nx tb tn (nx tb tn fr)))), (val tb tn (nx tb tn (nx tb tn fr))), 0) _ _ _ _ ⟨Or.inr (Or.inr ⟨n10, n22, rfl, rfl, rfl⟩), fun _ => rfl, Nat.zero_le 1, f7⟩ h dX11_toldItem_45
    ·
      have h : WX G A s _ _ (wM G a f g o d st du tb bi si nu mo kp it tn (nx tb tn (nx tb tn fr)) (tkE tb tn (nx tb tn (nx tb tn fr))) zz22 1) := h
      refine lv_aload_n hx hb dX11_toldItem_25 rfl (lv_at hl 1 rfl) ?_
      refine gM_isWrong S0 hG h dX11_toldItem_26 ?_
      refine n_zne hx hb (by decide) (tgt := 45) dX11_toldItem_29 (by decide) (fun c29 => ?_) (fun c29 => absurd c29 (by decide))
      exact hret (f, (nx tb tn (nx tb tn fr)), (tkE tb tn (nx tb tn (nx tb tn fr))), zz22, 1) _ _ _ _ ⟨Or.inr (Or.inl ⟨n10, n22, Nat.succ_ne_zero 0, rfl⟩), fun z9 => absurd z9 (Nat.succ_ne_zero 0), Nat.le_refl 1, f8⟩ h dX11_toldItem_45
  ·
    have h : WX G A s _ _ (wM G a f g o d st du tb bi si nu mo kp it tn (nx tb tn fr) (tkE tb tn (nx tb tn fr)) zz10 1) := h
    refine lv_aload_n hx hb dX11_toldItem_13 rfl (lv_at hl 0 rfl) ?_
    refine gM_value S0 hG h dX11_toldItem_14 ?_
    refine lv_istore hx hb dX11_toldItem_17 hl (by decide) rfl (fun ls hl => ?_)
    refine lv_aload_n hx hb dX11_toldItem_19 rfl (lv_at hl 1 rfl) ?_
    refine lv_iconst (v := nI 0) hx hb dX11_toldItem_20 (by decide) ?_
    refine lv_iload_n hx hb dX11_toldItem_21 rfl (lv_at hl 4 rfl) ?_
    refine cV_v0 S0 hG hA h hl.1 kw_RX11_251 kdV_X11_number (c_X11_numberS rfl) ⟨rfl, rfl, by decide, by decide, Nat.le_refl _, Nat.le_refl _⟩ rfl 11 0 rfl rfl rfl (Nat.le_of_ble_eq_true rfl) dX11_toldItem_22 (fun _ => rfl) (fun u H locs hq h => ?_)
    refine lv_aload_n hx hb dX11_toldItem_25 rfl (lv_at hl 1 rfl) ?_
    refine gM_isWrong S0 hG h dX11_toldItem_26 ?_
    refine n_zne hx hb (by decide) (tgt := 45) dX11_toldItem_29 (by decide) (fun c29 => ?_) (fun c29 => absurd c29 (by decide))
    exact hret (f, (nx tb tn fr), (tkE tb tn (nx tb tn fr)), zz10, 1) _ _ _ _ ⟨Or.inl ⟨n10, Nat.succ_ne_zero 0, rfl⟩, fun z9 => absurd z9 (Nat.succ_ne_zero 0), Nat.le_refl 1, f9⟩ h dX11_toldItem_45
set_option maxHeartbeats 4000000 in
set_option maxRecDepth 100000 in
theorem c_X11_personItem {x : Nat} (hT : ∀ i, tb i < 256) (htn : tn ≤ 120) (hfr : fr ≤ tn) (hw : wr = 0) (hto : to = tkE tb tn fr) (h8 : f 1 ≤ 8) : Kv G l yX11_personItem cX11_personItem 3 none (RM 6 113) [.ref (a 0), .int (nI x)] (wM G a f g o d st du tb bi si nu mo kp it tn fr to vl wr) (fun u : (Nat → Nat) × Nat × Nat × Nat × Nat => wM G a u.1 g o d st du tb bi si nu mo kp it tn u.2.1 u.2.2.1 u.2.2.2.1 u.2.2.2.2) (fun u => Per tb tn f x fr (u.2.2.2.2 = 0) u.1 u.2.1 ∧ (u.2.2.2.2 = 0 → u.2.2.1 = tkE tb tn u.2.1) ∧ u.2.2.2.2 ≤ 1 ∧ u.2.1 ≤ tn) := by
  refine Kv.of (by decide) (Nat.le_of_ble_eq_true rfl) ?_
  intro p e s m args below meth c A Q ls hx hb S0 hG hA h hret hl
  have S0 : CF p m c cX11_personItem 3 s args RX11 := S0
  have hl : lv_has ls 3 [(0, .ref (a 0)), (1, .int (nI x))] := hl
  subst hto
  subst hw
  have t9 := tkE_le (tb := tb) hfr
  have f9 := nx_le (tb := tb) hfr
  refine lv_aload_n hx hb dX11_personItem_0 rfl (lv_at hl 0 rfl) ?_
  refine lv_aload_n hx hb dX11_personItem_1 rfl (lv_at hl 0 rfl) ?_
  refine gM_s S0 hG h dX11_personItem_2 ?_
  refine lv_iconst (v := nI 1) hx hb dX11_personItem_5 (by decide) ?_
  refine rM_s S0 hG h (by omega) dX11_personItem_6 ?_
  refine lv_bipush (v := nI 8) hx hb dX11_personItem_7 (by decide) ?_
  refine n_cge hx hb (by omega) (by omega) (tgt := 16) dX11_personItem_9 (by decide) (fun c9 => ?_) (fun c9 => ?_)
  ·
    refine lv_iconst (v := nI 0) hx hb dX11_personItem_16 (by decide) ?_
    refine cV_v0 S0 hG hA h hl.1 kw_RX11_231 kdV_X11_must (c_X11_mustF (by decide) (by decide) (Or.inr rfl)) ⟨rfl, rfl, by decide, by decide, Nat.le_refl _, Nat.le_refl _⟩ rfl 11 0 rfl rfl rfl (Nat.le_of_ble_eq_true rfl) dX11_personItem_17 (fun _ => rfl) (fun u H locs hq h => ?_)
    have f8 := nx_le (tb := tb) f9
    have f7 := nx_le (tb := tb) f8
    have f6 := nx_le (tb := tb) f7
    refine lv_aload_n hx hb dX11_personItem_20 rfl (lv_at hl 0 rfl) ?_
    refine lv_iconst (v := nI 0) hx hb dX11_personItem_21 (by decide) ?_
    refine lv_bipush (v := nI 11) hx hb dX11_personItem_22 (by decide) ?_
    refine cV_v0 S0 hG hA h hl.1 kw_RX11_251 kdV_X11_number (c_X11_numberS rfl) ⟨rfl, rfl, by decide, by decide, Nat.le_refl _, Nat.le_refl _⟩ rfl 11 0 rfl rfl rfl (Nat.le_of_ble_eq_true rfl) dX11_personItem_24 (fun _ => rfl) (fun u H locs hq h => ?_)
    refine lv_aload_n hx hb dX11_personItem_27 rfl (lv_at hl 0 rfl) ?_
    refine gM_isWrong S0 hG h dX11_personItem_28 ?_
    refine n_zeq hx hb (by decide) (tgt := 35) dX11_personItem_31 (by decide) (fun c31 => absurd c31 (by decide)) (fun c31 => ?_)
    exact hret (f, fr, (tkE tb tn fr), vl, 1) _ _ _ _ ⟨Or.inl ⟨c9, Nat.succ_ne_zero 0, rfl⟩, fun z9 => absurd z9 (Nat.succ_ne_zero 0), Nat.le_refl 1, hfr⟩ h dX11_personItem_34
  ·
    refine lv_iconst (v := nI 1) hx hb dX11_personItem_12 (by decide) ?_
    refine lv_goto (tgt := 17) hx hb dX11_personItem_13 (by decide) ?_
    refine cV_v0 S0 hG hA h hl.1 kw_RX11_231 kdV_X11_must (c_X11_mustT hT htn hfr rfl rfl) ⟨rfl, rfl, by decide, by decide, Nat.le_refl _, Nat.le_refl _⟩ rfl 11 0 rfl rfl rfl (Nat.le_of_ble_eq_true rfl) dX11_personItem_17 (fun _ => rfl) (fun u H locs hq h => ?_)
    have f8 := nx_le (tb := tb) f9
    have f7 := nx_le (tb := tb) f8
    have f6 := nx_le (tb := tb) f7
    refine lv_aload_n hx hb dX11_personItem_20 rfl (lv_at hl 0 rfl) ?_
    refine lv_iconst (v := nI 0) hx hb dX11_personItem_21 (by decide) ?_
    refine lv_bipush (v := nI 11) hx hb dX11_personItem_22 (by decide) ?_
    refine cV_v0 S0 hG hA h hl.1 kw_RX11_251 kdV_X11_number (c_X11_number hT htn f9 rfl rfl (by decide) (by decide)) ⟨rfl, rfl, by decide, by decide, Nat.le_refl _, Nat.le_refl _⟩ rfl 11 0 rfl rfl rfl (Nat.le_of_ble_eq_true rfl) dX11_personItem_24 (fun _ => rfl) (fun u H locs hq h => ?_)
    rcases hq with ⟨n24, rfl⟩ | ⟨n24, zz24, rfl⟩
    ·
      have h : WX G A s _ _ (wM G a f g o d st du tb bi si nu mo kp it tn (nx tb tn (nx tb tn fr)) (tkE tb tn (nx tb tn (nx tb tn fr))) (val tb tn (nx tb tn fr)) 0) := h
      refine lv_aload_n hx hb dX11_personItem_27 rfl (lv_at hl 0 rfl) ?_
      refine gM_isWrong S0 hG h dX11_personItem_28 ?_
      refine n_zeq hx hb (by decide) (tgt := 35) dX11_personItem_31 (by decide) (fun c31 => ?_) (fun c31 => absurd c31 (by decide))
      refine lv_aload_n hx hb dX11_personItem_35 rfl (lv_at hl 0 rfl) ?_
      refine lv_iload_n hx hb dX11_personItem_36 rfl (lv_at hl 1 rfl) ?_
      refine lv_aload_n hx hb dX11_personItem_37 rfl (lv_at hl 0 rfl) ?_
      refine gM_value S0 hG h dX11_personItem_38 ?_
      refine cV_i0 S0 hG hA h hl.1 kw_RX11_120 kdV_X11_adds (c_X11_adds (by omega)) ⟨rfl, rfl, by decide, by decide, Nat.le_refl _, Nat.le_refl _⟩ rfl 11 0 rfl rfl rfl (Nat.le_of_ble_eq_true rfl) dX11_personItem_41 (fun _ => rfl) (fun r u H locs hq h => ?_)
      have h : WX G A s _ _ (wM G a (addF f x (val tb tn (nx tb tn fr))) g o d st du tb bi si nu mo kp it tn (nx tb tn (nx tb tn fr)) (tkE tb tn (nx tb tn (nx tb tn fr))) (val tb tn (nx tb tn fr)) 0) := h
      obtain rfl := hq
      refine lv_istore_n hx hb dX11_personItem_44 rfl hl (by decide) rfl (fun ls hl => ?_)
      refine lv_aload_n hx hb dX11_personItem_45 rfl (lv_at hl 1 rfl) ?_
      refine cV_l0 S0 hG hA h hl.1 kw_RX11_235 kdV_X11_word (c_X11_word hT htn f8 rfl rfl) ⟨rfl, rfl, by decide, by decide, Nat.le_refl _, Nat.le_refl _⟩ rfl 11 0 rfl rfl rfl (Nat.le_of_ble_eq_true rfl) dX11_personItem_46 (fun _ => rfl) (fun r u H locs hq h => ?_)
      obtain rfl := hq
      refine lv_ldc2 (v := 18523243) hx hb S0.2.2.2.1 (S0.2.2.2.2 _ (rin35 _ (List.mem_of_getElem? (i := 0) rfl))) dX11_personItem_49 ?_
      refine W.lcmp hx hb dX11_personItem_52 ?_
      refine lv_if_ne hx hb (tgt := 81) dX11_personItem_53 (by decide) (fun c53 => ?_) (fun c53 => ?_)
      ·
        have c53 := fun z9 => c53 ((lg_cmp_eq _ _).mpr (iv_wQuick.mpr z9))
        exact hret ((addF f x (val tb tn (nx tb tn fr))), (nx tb tn (nx tb tn fr)), (tkE tb tn (nx tb tn (nx tb tn fr))), (val tb tn (nx tb tn fr)), 0) _ _ _ _ ⟨Or.inr (Or.inr (Or.inl ⟨c9, n24, c53, rfl, rfl, rfl⟩)), fun _ => rfl, Nat.zero_le 1, f8⟩ h dX11_personItem_81
      ·
        have c53 := iv_wQuick.mp ((lg_cmp_eq _ _).mp c53)
        refine lv_aload_n hx hb dX11_personItem_56 rfl (lv_at hl 1 rfl) ?_
        refine lv_iconst (v := nI 1) hx hb dX11_personItem_57 (by decide) ?_
        refine cV_v0 S0 hG hA h hl.1 kw_RX11_231 kdV_X11_must (c_X11_mustT hT htn f8 rfl rfl) ⟨rfl, rfl, by decide, by decide, Nat.le_refl _, Nat.le_refl _⟩ rfl 11 0 rfl rfl rfl (Nat.le_of_ble_eq_true rfl) dX11_personItem_58 (fun _ => rfl) (fun u H locs hq h => ?_)
        refine lv_aload_n hx hb dX11_personItem_61 rfl (lv_at hl 1 rfl) ?_
        refine lv_iconst (v := nI 1) hx hb dX11_personItem_62 (by decide) ?_
        refine lv_iconst (v := nI 4) hx hb dX11_personItem_63 (by decide) ?_
        refine cV_v0 S0 hG hA h hl.1 kw_RX11_251 kdV_X11_number (c_X11_number hT htn f7 rfl rfl (by decide) (by decide)) ⟨rfl, rfl, by decide, by decide, Nat.le_refl _, Nat.le_refl _⟩ rfl 11 0 rfl rfl rfl (Nat.le_of_ble_eq_true rfl) dX11_personItem_64 (fun _ => rfl) (fun u H locs hq h => ?_)
        rcases hq with ⟨n64, rfl⟩ | ⟨n64, zz64, rfl⟩
        ·
          have h : WX G A s _ _ (wM G a (addF f x (val tb tn (nx tb tn fr))) g o d st du tb bi si nu mo kp it tn (nx tb tn (nx tb tn (nx tb tn (nx tb tn fr)))) (tkE tb tn (nx tb tn (nx tb tn (nx tb tn (nx tb tn fr))))) (val tb tn (nx tb tn (nx tb tn (nx tb tn fr)))) 0) := h
          refine lv_aload_n hx hb dX11_personItem_67 rfl (lv_at hl 1 rfl) ?_
          refine gM_s S0 hG h dX11_personItem_68 ?_
          refine lv_iload_n hx hb dX11_personItem_71 rfl (lv_at hl 0 rfl) ?_
          refine lv_iconst (v := nI 2) hx hb dX11_personItem_72 (by decide) ?_
          refine cS_iE S0 hG hA h hl.1 kw_RX11_45 kdS_X11_spot (c_X11_spot) ⟨rfl, rfl, by decide, by decide, Nat.le_refl _, Nat.le_refl _⟩ rfl rfl (Nat.le_of_ble_eq_true rfl) dX11_personItem_73 (fun r u H locs hq h => ?_)
          obtain rfl := hq
          refine lv_aload_n hx hb dX11_personItem_76 rfl (lv_at hl 1 rfl) ?_
          refine gM_value S0 hG h dX11_personItem_77 ?_
          refine sM_s S0 hG h (by omega) dX11_personItem_80 (fun H locs h => ?_)
          exact hret (adm f x (val tb tn (nx tb tn fr)) (val tb tn (nx tb tn (nx tb tn (nx tb tn fr)))), (nx tb tn (nx tb tn (nx tb tn (nx tb tn fr)))), (tkE tb tn (nx tb tn (nx tb tn (nx tb tn (nx tb tn fr))))), (val tb tn (nx tb tn (nx tb tn (nx tb tn fr)))), 0) _ _ _ _ ⟨Or.inr (Or.inr (Or.inr (Or.inr ⟨c9, n24, c53, n64, rfl, rfl, rfl⟩))), fun _ => rfl, Nat.zero_le 1, f6⟩ (h.eq (by rw [adm_quick])) dX11_personItem_81
        ·
          have h : WX G A s _ _ (wM G a (addF f x (val tb tn (nx tb tn fr))) g o d st du tb bi si nu mo kp it tn (nx tb tn (nx tb tn (nx tb tn fr))) (tkE tb tn (nx tb tn (nx tb tn (nx tb tn fr)))) zz64 1) := h
          refine lv_aload_n hx hb dX11_personItem_67 rfl (lv_at hl 1 rfl) ?_
          refine gM_s S0 hG h dX11_personItem_68 ?_
          refine lv_iload_n hx hb dX11_personItem_71 rfl (lv_at hl 0 rfl) ?_
          refine lv_iconst (v := nI 2) hx hb dX11_personItem_72 (by decide) ?_
          refine cS_iE S0 hG hA h hl.1 kw_RX11_45 kdS_X11_spot (c_X11_spot) ⟨rfl, rfl, by decide, by decide, Nat.le_refl _, Nat.le_refl _⟩ rfl rfl (Nat.le_of_ble_eq_true rfl) dX11_personItem_73 (fun r u H locs hq h => ?_)
          obtain rfl := hq
          refine lv_aload_n hx hb dX11_personItem_76 rfl (lv_at hl 1 rfl) ?_
          refine gM_value S0 hG h dX11_personItem_77 ?_
          refine sM_s S0 hG h (by omega) dX11_personItem_80 (fun H locs h => ?_)
          exact hret (_, (nx tb tn (nx tb tn (nx tb tn fr))), (tkE tb tn (nx tb tn (nx tb tn (nx tb tn fr)))), zz64, 1) _ _ _ _ ⟨Or.inr (Or.inr (Or.inr (Or.inl ⟨c9, n24, c53, n64, Nat.succ_ne_zero 0, rfl⟩))), fun z9 => absurd z9 (Nat.succ_ne_zero 0), Nat.le_refl 1, f7⟩ h dX11_personItem_81
    ·
      have h : WX G A s _ _ (wM G a f g o d st du tb bi si nu mo kp it tn (nx tb tn fr) (tkE tb tn (nx tb tn fr)) zz24 1) := h
      refine lv_aload_n hx hb dX11_personItem_27 rfl (lv_at hl 0 rfl) ?_
      refine gM_isWrong S0 hG h dX11_personItem_28 ?_
      refine n_zeq hx hb (by decide) (tgt := 35) dX11_personItem_31 (by decide) (fun c31 => absurd c31 (by decide)) (fun c31 => ?_)
      exact hret (f, (nx tb tn fr), (tkE tb tn (nx tb tn fr)), zz24, 1) _ _ _ _ ⟨Or.inr (Or.inl ⟨c9, n24, Nat.succ_ne_zero 0, rfl⟩), fun z9 => absurd z9 (Nat.succ_ne_zero 0), Nat.le_refl 1, f9⟩ h dX11_personItem_34
theorem kw_RX11_257 : GoodIn wsL_law (wsV RX11 257 RX11 yX11_kindHere (WS yX11_kindHere cX11_kindHere 3 (some .int))) := gV (rin34 _ (List.mem_of_getElem? (i := 3) rfl)) (rin34 _ (List.mem_of_getElem? (i := 4) rfl)) (rin34 _ (List.mem_of_getElem? (i := 5) rfl)) (rin1 _ (List.mem_of_getElem? (i := 5) rfl)) (rin34 _ (List.mem_of_getElem? (i := 6) rfl))
theorem kw_RX11_260 : GoodIn wsL_law (wsV RX11 260 RX11 yX11_personItem (WS yX11_personItem cX11_personItem 3 none)) := gV (rin34 _ (List.mem_of_getElem? (i := 19) rfl)) (rin34 _ (List.mem_of_getElem? (i := 20) rfl)) (rin34 _ (List.mem_of_getElem? (i := 21) rfl)) (rin1 _ (List.mem_of_getElem? (i := 5) rfl)) (rin34 _ (List.mem_of_getElem? (i := 22) rfl))
theorem kw_RX11_265 : GoodIn wsL_law (wsV RX11 265 RX11 yX11_toldItem (WS yX11_toldItem cX11_toldItem 5 none)) := gV (rin35 _ (List.mem_of_getElem? (i := 9) rfl)) (rin35 _ (List.mem_of_getElem? (i := 10) rfl)) (rin35 _ (List.mem_of_getElem? (i := 11) rfl)) (rin1 _ (List.mem_of_getElem? (i := 5) rfl)) (rin35 _ (List.mem_of_getElem? (i := 12) rfl))
theorem kdV_X11_kindHere : yX11_kindHere.cls = RX11 ∧ yX11_kindHere.cls ≠ "java/lang/invoke/MethodHandle" ∧ yX11_kindHere.cls ≠ "java/lang/invoke/VarHandle" ∧ (parseMethodDescriptor yX11_kindHere.desc).map (fun d => d.parameters.length) = some 0 := ⟨rfl, by decide +kernel, by decide +kernel, by decide +kernel⟩
theorem kdV_X11_personItem : yX11_personItem.cls = RX11 ∧ yX11_personItem.cls ≠ "java/lang/invoke/MethodHandle" ∧ yX11_personItem.cls ≠ "java/lang/invoke/VarHandle" ∧ (parseMethodDescriptor yX11_personItem.desc).map (fun d => d.parameters.length) = some 1 := ⟨rfl, by decide +kernel, by decide +kernel, by decide +kernel⟩
theorem kdV_X11_toldItem : yX11_toldItem.cls = RX11 ∧ yX11_toldItem.cls ≠ "java/lang/invoke/MethodHandle" ∧ yX11_toldItem.cls ≠ "java/lang/invoke/VarHandle" ∧ (parseMethodDescriptor yX11_toldItem.desc).map (fun d => d.parameters.length) = some 3 := ⟨rfl, by decide +kernel, by decide +kernel, by decide +kernel⟩
set_option maxHeartbeats 4000000 in
set_option maxRecDepth 100000 in
theorem c_X11_item (hT : ∀ i, tb i < 256) (htn : tn ≤ 120) (hfr : fr ≤ tn) (hw : wr = 0) (hto : to = tkE tb tn fr) (h8 : f 1 ≤ 8) : Kv G l yX11_item cX11_item 4 none (RM 7 137) [.ref (a 0)] (wM G a f g o d st du tb bi si nu mo kp it tn fr to vl wr) (fun u : (Nat → Nat) × Nat × Nat × Nat × Nat => wM G a u.1 g o d st du tb bi si nu mo kp it tn u.2.1 u.2.2.1 u.2.2.2.1 u.2.2.2.2) (fun u => Item tb tn f fr (u.2.2.2.2 = 0) u.1 u.2.1 ∧ (u.2.2.2.2 = 0 → u.2.2.1 = tkE tb tn u.2.1) ∧ u.2.2.2.2 ≤ 1 ∧ u.2.1 ≤ tn) := by
  refine Kv.of (by decide) (Nat.le_of_ble_eq_true rfl) ?_
  intro p e s m args below meth c A Q ls hx hb S0 hG hA h hret hl
  have S0 : CF p m c cX11_item 4 s args RX11 := S0
  have hl : lv_has ls 4 [(0, .ref (a 0))] := hl
  subst hto
  subst hw
  have t9 := tkE_le (tb := tb) hfr
  have f9 := nx_le (tb := tb) hfr
  refine lv_aload_n hx hb dX11_item_0 rfl (lv_at hl 0 rfl) ?_
  refine cV_i0 S0 hG hA h hl.1 kw_RX11_257 kdV_X11_kindHere (c_X11_kindHere hT htn hfr rfl rfl) ⟨rfl, rfl, by decide, by decide, Nat.le_refl _, Nat.le_refl _⟩ rfl 11 0 rfl rfl rfl (Nat.le_of_ble_eq_true rfl) dX11_item_1 (fun _ => rfl) (fun r u H locs hq h => ?_)
  rcases hq with ⟨k, hk, rfl, w1⟩ | ⟨rfl, w1⟩
  ·
    refine lv_istore_n hx hb dX11_item_4 rfl hl (by decide) rfl (fun ls hl => ?_)
    refine lv_aload_n hx hb dX11_item_5 rfl (lv_at hl 1 rfl) ?_
    refine cV_l0 S0 hG hA h hl.1 kw_RX11_235 kdV_X11_word (c_X11_word hT htn hfr rfl rfl) ⟨rfl, rfl, by decide, by decide, Nat.le_refl _, Nat.le_refl _⟩ rfl 11 0 rfl rfl rfl (Nat.le_of_ble_eq_true rfl) dX11_item_6 (fun _ => rfl) (fun r u H locs hq h => ?_)
    obtain rfl := hq
    refine lv_lstore_n hx hb dX11_item_9 rfl hl (by decide) rfl (fun ls hl => ?_)
    refine lv_iload_n hx hb dX11_item_10 rfl (lv_at hl 1 rfl) ?_
    refine n_zlt hx hb (by omega) (tgt := 22) dX11_item_11 (by decide) ?_
    refine lv_aload_n hx hb dX11_item_14 rfl (lv_at hl 2 rfl) ?_
    refine lv_iload_n hx hb dX11_item_15 rfl (lv_at hl 1 rfl) ?_
    refine cV_v0 S0 hG hA h hl.1 kw_RX11_260 kdV_X11_personItem (c_X11_personItem hT htn hfr rfl rfl h8) ⟨rfl, rfl, by decide, by decide, Nat.le_refl _, Nat.le_refl _⟩ rfl 11 0 rfl rfl rfl (Nat.le_of_ble_eq_true rfl) dX11_item_16 (fun _ => rfl) (fun u H locs hq h => ?_)
    refine lv_goto (tgt := 67) hx hb dX11_item_19 (by decide) ?_
    exact hret u _ _ _ _ ⟨Or.inl ⟨k, hk, w1, hq.1⟩, hq.2⟩ h dX11_item_67
  ·
    refine lv_istore_n hx hb dX11_item_4 rfl hl (by decide) rfl (fun ls hl => ?_)
    refine lv_aload_n hx hb dX11_item_5 rfl (lv_at hl 1 rfl) ?_
    refine cV_l0 S0 hG hA h hl.1 kw_RX11_235 kdV_X11_word (c_X11_word hT htn hfr rfl rfl) ⟨rfl, rfl, by decide, by decide, Nat.le_refl _, Nat.le_refl _⟩ rfl 11 0 rfl rfl rfl (Nat.le_of_ble_eq_true rfl) dX11_item_6 (fun _ => rfl) (fun r u H locs hq h => ?_)
    obtain rfl := hq
    refine lv_lstore_n hx hb dX11_item_9 rfl hl (by decide) rfl (fun ls hl => ?_)
    refine lv_iload_n hx hb dX11_item_10 rfl (lv_at hl 1 rfl) ?_
    refine lv_if_lt hx hb (tgt := 22) dX11_item_11 (by decide) (fun c11 => ?_) (fun c11 => absurd (show (-1 : Int32) < 0 by decide) c11)
    refine lv_lload_n hx hb dX11_item_22 rfl (lv_at hl 0 rfl) ?_
    refine lv_ldc2 (v := 20037189) hx hb S0.2.2.2.1 (S0.2.2.2.2 _ (rin34 _ (List.mem_of_getElem? (i := 1) rfl))) dX11_item_23 ?_
    refine W.lcmp hx hb dX11_item_26 ?_
    refine lv_if_ne hx hb (tgt := 42) dX11_item_27 (by decide) (fun c27 => ?_) (fun c27 => ?_)
    ·
      have c27 := fun z9 => c27 ((lg_cmp_eq _ _).mpr (iv_wScore.mpr z9))
      refine lv_lload_n hx hb dX11_item_42 rfl (lv_at hl 0 rfl) ?_
      refine lv_ldc2 (v := 71052) hx hb S0.2.2.2.1 (S0.2.2.2.2 _ (rin34 _ (List.mem_of_getElem? (i := 2) rfl))) dX11_item_43 ?_
      refine W.lcmp hx hb dX11_item_46 ?_
      refine lv_if_ne hx hb (tgt := 62) dX11_item_47 (by decide) (fun c47 => ?_) (fun c47 => ?_)
      ·
        have c47 := fun z9 => c47 ((lg_cmp_eq _ _).mpr (iv_wBell.mpr z9))
        refine lv_aload_n hx hb dX11_item_62 rfl (lv_at hl 2 rfl) ?_
        refine lv_iconst (v := nI 0) hx hb dX11_item_63 (by decide) ?_
        refine cV_v0 S0 hG hA h hl.1 kw_RX11_231 kdV_X11_must (c_X11_mustF (by decide) (by decide) (Or.inr rfl)) ⟨rfl, rfl, by decide, by decide, Nat.le_refl _, Nat.le_refl _⟩ rfl 11 0 rfl rfl rfl (Nat.le_of_ble_eq_true rfl) dX11_item_64 (fun _ => rfl) (fun u H locs hq h => ?_)
        exact hret (f, fr, (tkE tb tn fr), vl, 1) _ _ _ _ ⟨Or.inr (Or.inr (Or.inr ⟨w1, c27, c47, Nat.succ_ne_zero 0, rfl⟩)), fun z9 => absurd z9 (Nat.succ_ne_zero 0), Nat.le_refl 1, hfr⟩ h dX11_item_67
      ·
        have c47 := iv_wBell.mp ((lg_cmp_eq _ _).mp c47)
        refine lv_aload_n hx hb dX11_item_50 rfl (lv_at hl 2 rfl) ?_
        refine lv_bipush (v := nI 8) hx hb dX11_item_51 (by decide) ?_
        refine lv_iconst (v := nI 3) hx hb dX11_item_53 (by decide) ?_
        refine lv_bipush (v := nI 47) hx hb dX11_item_54 (by decide) ?_
        refine cV_v0 S0 hG hA h hl.1 kw_RX11_265 kdV_X11_toldItem (c_X11_toldItem hT htn hfr rfl rfl (by decide) (by decide) (by decide) (by decide)) ⟨rfl, rfl, by decide, by decide, Nat.le_refl _, Nat.le_refl _⟩ rfl 11 0 rfl rfl rfl (Nat.le_of_ble_eq_true rfl) dX11_item_56 (fun _ => rfl) (fun u H locs hq h => ?_)
        refine lv_goto (tgt := 67) hx hb dX11_item_59 (by decide) ?_
        exact hret u _ _ _ _ ⟨Or.inr (Or.inr (Or.inl ⟨c47, hq.1⟩)), hq.2⟩ h dX11_item_67
    ·
      have c27 := iv_wScore.mp ((lg_cmp_eq _ _).mp c27)
      refine lv_aload_n hx hb dX11_item_30 rfl (lv_at hl 2 rfl) ?_
      refine lv_iconst (v := nI 2) hx hb dX11_item_31 (by decide) ?_
      refine lv_bipush (v := nI 6) hx hb dX11_item_32 (by decide) ?_
      refine lv_bipush (v := nI 11) hx hb dX11_item_34 (by decide) ?_
      refine cV_v0 S0 hG hA h hl.1 kw_RX11_265 kdV_X11_toldItem (c_X11_toldItem hT htn hfr rfl rfl (by decide) (by decide) (by decide) (by decide)) ⟨rfl, rfl, by decide, by decide, Nat.le_refl _, Nat.le_refl _⟩ rfl 11 0 rfl rfl rfl (Nat.le_of_ble_eq_true rfl) dX11_item_36 (fun _ => rfl) (fun u H locs hq h => ?_)
      refine lv_goto (tgt := 67) hx hb dX11_item_39 (by decide) ?_
      exact hret u _ _ _ _ ⟨Or.inr (Or.inl ⟨c27, hq.1⟩), hq.2⟩ h dX11_item_67
