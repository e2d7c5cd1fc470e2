/-! the foyer: a minute -/
variable {G : GT} {l : Launch} {a : Nat → Nat} {f : Nat → Nat} {q sp : Nat} {rg : Int32} {wd : Nat → Nat} {it : Nat}
theorem wF_fi {f2 : Nat → Nat} {it2 : Nat} (h1 : f = f2) (h2 : it = it2) : wF G a f q sp rg wd it = wF G a f2 q sp rg wd it2 := by rw [h1, h2]
theorem kw_RX3_110 : GoodIn wsL_law (wsV RX3 110 RX4 yX4_spoils (WS yX4_spoils cX4_spoils 1 (some .int))) := gV (rin21 _ (List.mem_of_getElem? (i := 15) rfl)) (rin17 _ (List.mem_of_getElem? (i := 10) rfl)) (rin17 _ (List.mem_of_getElem? (i := 12) rfl)) (rin2 _ (List.mem_of_getElem? (i := 23) rfl)) (rin17 _ (List.mem_of_getElem? (i := 5) rfl))
theorem kw_RX3_110_RX2 : GoodIn wsL_law (va_wsO RX3 110 RX2 "ComposedInterval$Guest" yX4_spoils yX2_spoils (WS yX2_spoils cX2_spoils 1 (some .int))) := gO (rin21 _ (List.mem_of_getElem? (i := 15) rfl)) (rin16 _ (List.mem_of_getElem? (i := 20) rfl)) (rin17 _ (List.mem_of_getElem? (i := 10) rfl)) (rin17 _ (List.mem_of_getElem? (i := 6) rfl)) (rin17 _ (List.mem_of_getElem? (i := 7) rfl)) (rin3 _ (List.mem_of_getElem? (i := 3) rfl)) (rin17 _ (List.mem_of_getElem? (i := 8) rfl))
theorem kw_RX3_110_RX8 : GoodIn wsL_law (va_wsO RX3 110 RX8 "ComposedInterval$Guest" yX4_spoils yX8_spoils (WS yX8_spoils cX8_spoils 1 (some .int))) := gO (rin21 _ (List.mem_of_getElem? (i := 15) rfl)) (rin16 _ (List.mem_of_getElem? (i := 20) rfl)) (rin17 _ (List.mem_of_getElem? (i := 10) rfl)) (rin17 _ (List.mem_of_getElem? (i := 21) rfl)) (rin17 _ (List.mem_of_getElem? (i := 3) rfl)) (rin3 _ (List.mem_of_getElem? (i := 7) rfl)) (rin17 _ (List.mem_of_getElem? (i := 4) rfl))
theorem kw_RX3_110_RX5 : GoodIn wsL_law (va_wsO RX3 110 RX5 "ComposedInterval$Guest" yX4_spoils yX5_spoils (WS yX5_spoils cX5_spoils 1 (some .int))) := gO (rin21 _ (List.mem_of_getElem? (i := 15) rfl)) (rin16 _ (List.mem_of_getElem? (i := 20) rfl)) (rin17 _ (List.mem_of_getElem? (i := 10) rfl)) (rin17 _ (List.mem_of_getElem? (i := 13) rfl)) (rin17 _ (List.mem_of_getElem? (i := 14) rfl)) (rin3 _ (List.mem_of_getElem? (i := 11) rfl)) (rin17 _ (List.mem_of_getElem? (i := 15) rfl))
theorem kw_RX3_110_RX1 : GoodIn wsL_law (va_wsO RX3 110 RX1 "ComposedInterval$Guest" yX4_spoils yX1_spoils (WS yX1_spoils cX1_spoils 1 (some .int))) := gO (rin21 _ (List.mem_of_getElem? (i := 15) rfl)) (rin16 _ (List.mem_of_getElem? (i := 20) rfl)) (rin17 _ (List.mem_of_getElem? (i := 10) rfl)) (rin16 _ (List.mem_of_getElem? (i := 22) rfl)) (rin16 _ (List.mem_of_getElem? (i := 23) rfl)) (rin3 _ (List.mem_of_getElem? (i := 15) rfl)) (rin17 _ (List.mem_of_getElem? (i := 0) rfl))
theorem kw_RX3_110_RX6 : GoodIn wsL_law (va_wsO RX3 110 RX6 "ComposedInterval$Guest" yX4_spoils yX6_spoils (WS yX6_spoils cX6_spoils 1 (some .int))) := gO (rin21 _ (List.mem_of_getElem? (i := 15) rfl)) (rin16 _ (List.mem_of_getElem? (i := 20) rfl)) (rin17 _ (List.mem_of_getElem? (i := 10) rfl)) (rin17 _ (List.mem_of_getElem? (i := 16) rfl)) (rin17 _ (List.mem_of_getElem? (i := 17) rfl)) (rin3 _ (List.mem_of_getElem? (i := 19) rfl)) (rin17 _ (List.mem_of_getElem? (i := 18) rfl))
theorem kdV_X4_spoils : yX4_spoils.cls = RX4 ∧ yX4_spoils.cls ≠ "java/lang/invoke/MethodHandle" ∧ yX4_spoils.cls ≠ "java/lang/invoke/VarHandle" ∧ (parseMethodDescriptor yX4_spoils.desc).map (fun d => d.parameters.length) = some 0 := ⟨rfl, by decide +kernel, by decide +kernel, by decide +kernel⟩
theorem kdG_spoils : ("ComposedInterval$Guest" : String) ≠ "java/lang/invoke/MethodHandle" ∧ ("ComposedInterval$Guest" : String) ≠ "java/lang/invoke/VarHandle" ∧ (parseMethodDescriptor yX4_spoils.desc).map (fun d => d.parameters.length) = some 0 := ⟨by decide +kernel, by decide +kernel, by decide +kernel⟩
set_option maxHeartbeats 4000000 in
set_option maxRecDepth 100000 in
theorem c_X3_markMinute (hI : Inv f) (hwd : ∀ p, p < f 1 → wd p ≤ 11) : Kv G l yX3_markMinute cX3_markMinute 2 none (RM 4 60) [.ref (a 0)] (wF G a f q sp rg wd it) (fun u : Unit => wF G a (markN f wd (f 1)) q sp rg wd (setN (fun p => decide (its f p 1 = wd p)) (f 1))) (fun _ => True) := by
  refine Kv.of (by decide) (Nat.le_of_ble_eq_true rfl) ?_
  intro p e s m args below meth c A Q ls hx hb S0 hG hA h hret hl
  have S0 : CF p m c cX3_markMinute 2 s args RX3 := S0
  have hl : lv_has ls 2 [(0, .ref (a 0))] := hl
  have h1 := hI.2.1
  have lp7 : ∀ (kf : Nat) (i : Nat) (H : Heap) (locs : List Loc) (ls : Array Slot) (hi : i ≤ f 1), f 1 - i < kf → WX G A s H locs (wF G a (markN f wd i) q sp rg wd (setN (fun p => decide (its f p 1 = wd p)) i)) → lv_has ls 2 [(0, .ref (a 0)), (1, .int (nI i))] → W p l e (RM 4 60) s m args below meth c H locs 0 0 Q (F0 m 7 ls []) := by
    intro kf
    induction kf with
    | zero => intro i H locs ls hi hm; exact absurd hm (Nat.not_lt_zero _)
    | succ kf ih7 =>
      intro i H locs ls hi hm h hl
      have hI9 := markN_inv hI wd i
      have k9 := markN_its f wd (q := i) (w := 1) (by omega) i
      refine lv_iload_n hx hb dX3_markMinute_7 rfl (lv_at hl 1 rfl) ?_
      refine lv_aload_n hx hb dX3_markMinute_8 rfl (lv_at hl 0 rfl) ?_
      refine gF_RX3_people S0 hG h dX3_markMinute_9 ?_
      refine tN (nI_cong (markN_lo f wd (by omega) i)) ?_
      refine n_cge hx hb (by omega) (by omega) (tgt := 98) dX3_markMinute_12 (by decide) (fun c12 => ?_) (fun c12 => ?_)
      ·
        have e9 : i = f 1 := by omega
        subst e9
        exact hret () _ _ _ _ trivial h dX3_markMinute_98
      ·
        refine lv_aload_n hx hb dX3_markMinute_15 rfl (lv_at hl 0 rfl) ?_
        refine gF_RX3_at S0 hG h dX3_markMinute_16 ?_
        refine lv_iload_n hx hb dX3_markMinute_19 rfl (lv_at hl 1 rfl) ?_
        refine rF_at S0 hG h (by omega) dX3_markMinute_20 ?_
        refine tN (nI_cong (markN_its f wd (by omega) i)) ?_
        refine lv_aload_n hx hb dX3_markMinute_21 rfl (lv_at hl 0 rfl) ?_
        refine gF_RX3_wasDue S0 hG h dX3_markMinute_22 ?_
        refine lv_iload_n hx hb dX3_markMinute_25 rfl (lv_at hl 1 rfl) ?_
        refine rF_wasDue S0 hG h (by omega) dX3_markMinute_26 ?_
        have h5 := hI.2.2.2.2 i (by omega)
        have h7 := hI9.2.2.2.2 i (by omega)
        have h8 := spoilK_le (its (markN f wd i) i 0)
        refine n_cne hx hb (by have := hwd i (by omega); omega) (by have := hwd i (by omega); omega) (tgt := 65) dX3_markMinute_27 (by decide) (fun c27 => ?_) (fun c27 => ?_)
        ·
          refine lv_aload_n hx hb dX3_markMinute_65 rfl (lv_at hl 0 rfl) ?_
          refine gF_RX3_spoilt S0 hG h dX3_markMinute_66 ?_
          refine lv_iload_n hx hb dX3_markMinute_69 rfl (lv_at hl 1 rfl) ?_
          refine lv_sipush (v := nI 9999) hx hb dX3_markMinute_70 (by decide) ?_
          refine lv_aload_n hx hb dX3_markMinute_73 rfl (lv_at hl 0 rfl) ?_
          refine gF_RX3_spoilt S0 hG h dX3_markMinute_74 ?_
          refine lv_iload_n hx hb dX3_markMinute_77 rfl (lv_at hl 1 rfl) ?_
          refine rF_spoilt S0 hG h (by omega) dX3_markMinute_78 ?_
          refine lv_aload_n hx hb dX3_markMinute_79 rfl (lv_at hl 0 rfl) ?_
          refine lv_iload_n hx hb dX3_markMinute_80 rfl (lv_at hl 1 rfl) ?_
          refine cV_r0 S0 hG hA h hl.1 kw_RX3_71 kdV_X3_guest (c_X3_guest (by omega) hI9) ⟨rfl, rfl, by decide, by decide, Nat.le_refl _, Nat.le_refl _⟩ rfl 3 0 rfl rfl rfl (Nat.le_of_ble_eq_true rfl) dX3_markMinute_81 (fun _ => rfl) (fun u H locs hq h => ?_)
          rcases (show its (markN f wd i) i 0 = 0 ∨ its (markN f wd i) i 0 = 1 ∨ its (markN f wd i) i 0 = 2 ∨ its (markN f wd i) i 0 = 3 ∨ its (markN f wd i) i 0 = 4 ∨ its (markN f wd i) i 0 = 5 by omega) with k81 | k81 | k81 | k81 | k81 | k81
          ·
            rw [k81]
            refine cV_i0 S0 hG hA h hl.1 kw_RX3_110 kdV_X4_spoils (c_X4_spoils) ⟨rfl, rfl, by decide, by decide, Nat.le_refl _, Nat.le_refl _⟩ rfl 4 10 rfl rfl rfl (Nat.le_of_ble_eq_true rfl) dX3_markMinute_84 (fun _ => rfl) (fun r u H locs hq h => ?_)
            obtain rfl := hq
            refine tN (t := spoilK (its (markN f wd i) i 0)) (nI_cong (by simp [spoilK, k81])) ?_
            refine n_add hx hb dX3_markMinute_87 ?_
            refine va_mmin hx hb (S0.2.2.1.trans hl.1.symm) S0.2.2.2.1 (S0.2.2.2.2 _ (rin21 _ (List.mem_of_getElem? (i := 4) rfl))) (S0.2.2.2.2 _ (rin21 _ (List.mem_of_getElem? (i := 5) rfl))) (S0.2.2.2.2 _ (rin11 _ (List.mem_of_getElem? (i := 4) rfl))) (S0.2.2.2.2 _ (rin21 _ (List.mem_of_getElem? (i := 6) rfl))) (by decide) (Nat.le_of_ble_eq_true rfl) (Nat.le_refl _) (Nat.le_refl _) dX3_markMinute_88 ?_
            refine tN (min_nI (by omega)) ?_
            refine sF_spoilt S0 hG h (by omega) dX3_markMinute_91 (fun H locs h => ?_)
            refine lv_iinc hx hb dX3_markMinute_92 hl (k := 1) rfl (inc_1 _) (by decide) rfl (fun ls hl => ?_)
            refine lv_goto (tgt := 7) hx hb dX3_markMinute_95 (by decide) ?_
            exact ih7 (i + 1) _ _ _ (by omega) (by omega) (h.eq (wF_fi (by show _ = mark1 (markN f wd i) wd i; unfold mark1; rw [k9]; first | rw [if_pos c27] | rw [if_neg c27]) (by show _ = (if decide (its f i 1 = wd i) = true then _ ||| 2 ^ i else _); simp [c27]))) (lv_sub hl [1, 0] rfl)
          ·
            rw [k81]
            refine cO_i0 S0 hG hA h hl.1 kw_RX3_110_RX2 (rin17 _ (List.mem_of_getElem? (i := 5) rfl)) kdG_spoils (c_X2_spoils (q0 := 11) (ci := 2) rfl rfl) ⟨rfl, rfl, by decide, by decide, Nat.le_refl _, Nat.le_refl _⟩ rfl 2 11 rfl rfl rfl (Nat.le_of_ble_eq_true rfl) dX3_markMinute_84 (fun _ => rfl) (fun r u H locs hq h => ?_)
            obtain rfl := hq
            refine tN (t := spoilK (its (markN f wd i) i 0)) (nI_cong (by simp [spoilK, k81])) ?_
            refine n_add hx hb dX3_markMinute_87 ?_
            refine va_mmin hx hb (S0.2.2.1.trans hl.1.symm) S0.2.2.2.1 (S0.2.2.2.2 _ (rin21 _ (List.mem_of_getElem? (i := 4) rfl))) (S0.2.2.2.2 _ (rin21 _ (List.mem_of_getElem? (i := 5) rfl))) (S0.2.2.2.2 _ (rin11 _ (List.mem_of_getElem? (i := 4) rfl))) (S0.2.2.2.2 _ (rin21 _ (List.mem_of_getElem? (i := 6) rfl))) (by decide) (Nat.le_of_ble_eq_true rfl) (Nat.le_refl _) (Nat.le_refl _) dX3_markMinute_88 ?_
            refine tN (min_nI (by omega)) ?_
            refine sF_spoilt S0 hG h (by omega) dX3_markMinute_91 (fun H locs h => ?_)
            refine lv_iinc hx hb dX3_markMinute_92 hl (k := 1) rfl (inc_1 _) (by decide) rfl (fun ls hl => ?_)
            refine lv_goto (tgt := 7) hx hb dX3_markMinute_95 (by decide) ?_
            exact ih7 (i + 1) _ _ _ (by omega) (by omega) (h.eq (wF_fi (by show _ = mark1 (markN f wd i) wd i; unfold mark1; rw [k9]; first | rw [if_pos c27] | rw [if_neg c27]) (by show _ = (if decide (its f i 1 = wd i) = true then _ ||| 2 ^ i else _); simp [c27]))) (lv_sub hl [1, 0] rfl)
          ·
            rw [k81]
            refine cO_i0 S0 hG hA h hl.1 kw_RX3_110_RX8 (rin17 _ (List.mem_of_getElem? (i := 5) rfl)) kdG_spoils (c_X8_spoils) ⟨rfl, rfl, by decide, by decide, Nat.le_refl _, Nat.le_refl _⟩ rfl 8 12 rfl rfl rfl (Nat.le_of_ble_eq_true rfl) dX3_markMinute_84 (fun _ => rfl) (fun r u H locs hq h => ?_)
            obtain rfl := hq
            refine tN (t := spoilK (its (markN f wd i) i 0)) (nI_cong (by simp [spoilK, k81])) ?_
            refine n_add hx hb dX3_markMinute_87 ?_
            refine va_mmin hx hb (S0.2.2.1.trans hl.1.symm) S0.2.2.2.1 (S0.2.2.2.2 _ (rin21 _ (List.mem_of_getElem? (i := 4) rfl))) (S0.2.2.2.2 _ (rin21 _ (List.mem_of_getElem? (i := 5) rfl))) (S0.2.2.2.2 _ (rin11 _ (List.mem_of_getElem? (i := 4) rfl))) (S0.2.2.2.2 _ (rin21 _ (List.mem_of_getElem? (i := 6) rfl))) (by decide) (Nat.le_of_ble_eq_true rfl) (Nat.le_refl _) (Nat.le_refl _) dX3_markMinute_88 ?_
            refine tN (min_nI (by omega)) ?_
            refine sF_spoilt S0 hG h (by omega) dX3_markMinute_91 (fun H locs h => ?_)
            refine lv_iinc hx hb dX3_markMinute_92 hl (k := 1) rfl (inc_1 _) (by decide) rfl (fun ls hl => ?_)
            refine lv_goto (tgt := 7) hx hb dX3_markMinute_95 (by decide) ?_
            exact ih7 (i + 1) _ _ _ (by omega) (by omega) (h.eq (wF_fi (by show _ = mark1 (markN f wd i) wd i; unfold mark1; rw [k9]; first | rw [if_pos c27] | rw [if_neg c27]) (by show _ = (if decide (its f i 1 = wd i) = true then _ ||| 2 ^ i else _); simp [c27]))) (lv_sub hl [1, 0] rfl)
          ·
            rw [k81]
            refine cO_i0 S0 hG hA h hl.1 kw_RX3_110_RX5 (rin17 _ (List.mem_of_getElem? (i := 5) rfl)) kdG_spoils (c_X5_spoils) ⟨rfl, rfl, by decide, by decide, Nat.le_refl _, Nat.le_refl _⟩ rfl 5 13 rfl rfl rfl (Nat.le_of_ble_eq_true rfl) dX3_markMinute_84 (fun _ => rfl) (fun r u H locs hq h => ?_)
            obtain rfl := hq
            refine tN (t := spoilK (its (markN f wd i) i 0)) (nI_cong (by simp [spoilK, k81])) ?_
            refine n_add hx hb dX3_markMinute_87 ?_
            refine va_mmin hx hb (S0.2.2.1.trans hl.1.symm) S0.2.2.2.1 (S0.2.2.2.2 _ (rin21 _ (List.mem_of_getElem? (i := 4) rfl))) (S0.2.2.2.2 _ (rin21 _ (List.mem_of_getElem? (i := 5) rfl))) (S0.2.2.2.2 _ (rin11 _ (List.mem_of_getElem? (i := 4) rfl))) (S0.2.2.2.2 _ (rin21 _ (List.mem_of_getElem? (i := 6) rfl))) (by decide) (Nat.le_of_ble_eq_true rfl) (Nat.le_refl _) (Nat.le_refl _) dX3_markMinute_88 ?_
            refine tN (min_nI (by omega)) ?_
            refine sF_spoilt S0 hG h (by omega) dX3_markMinute_91 (fun H locs h => ?_)
            refine lv_iinc hx hb dX3_markMinute_92 hl (k := 1) rfl (inc_1 _) (by decide) rfl (fun ls hl => ?_)
            refine lv_goto (tgt := 7) hx hb dX3_markMinute_95 (by decide) ?_
            exact ih7 (i + 1) _ _ _ (by omega) (by omega) (h.eq (wF_fi (by show _ = mark1 (markN f wd i) wd i; unfold mark1; rw [k9]; first | rw [if_pos c27] | rw [if_neg c27]) (by show _ = (if decide (its f i 1 = wd i) = true then _ ||| 2 ^ i else _); simp [c27]))) (lv_sub hl [1, 0] rfl)
          ·
            rw [k81]
            refine cO_i0 S0 hG hA h hl.1 kw_RX3_110_RX1 (rin17 _ (List.mem_of_getElem? (i := 5) rfl)) kdG_spoils (c_X1_spoils (q0 := 14) (ci := 1) rfl rfl) ⟨rfl, rfl, by decide, by decide, Nat.le_refl _, Nat.le_refl _⟩ rfl 1 14 rfl rfl rfl (Nat.le_of_ble_eq_true rfl) dX3_markMinute_84 (fun _ => rfl) (fun r u H locs hq h => ?_)
            obtain rfl := hq
            refine tN (t := spoilK (its (markN f wd i) i 0)) (nI_cong (by simp [spoilK, k81])) ?_
            refine n_add hx hb dX3_markMinute_87 ?_
            refine va_mmin hx hb (S0.2.2.1.trans hl.1.symm) S0.2.2.2.1 (S0.2.2.2.2 _ (rin21 _ (List.mem_of_getElem? (i := 4) rfl))) (S0.2.2.2.2 _ (rin21 _ (List.mem_of_getElem? (i := 5) rfl))) (S0.2.2.2.2 _ (rin11 _ (List.mem_of_getElem? (i := 4) rfl))) (S0.2.2.2.2 _ (rin21 _ (List.mem_of_getElem? (i := 6) rfl))) (by decide) (Nat.le_of_ble_eq_true rfl) (Nat.le_refl _) (Nat.le_refl _) dX3_markMinute_88 ?_
            refine tN (min_nI (by omega)) ?_
            refine sF_spoilt S0 hG h (by omega) dX3_markMinute_91 (fun H locs h => ?_)
            refine lv_iinc hx hb dX3_markMinute_92 hl (k := 1) rfl (inc_1 _) (by decide) rfl (fun ls hl => ?_)
            refine lv_goto (tgt := 7) hx hb dX3_markMinute_95 (by decide) ?_
            exact ih7 (i + 1) _ _ _ (by omega) (by omega) (h.eq (wF_fi (by show _ = mark1 (markN f wd i) wd i; unfold mark1; rw [k9]; first | rw [if_pos c27] | rw [if_neg c27]) (by show _ = (if decide (its f i 1 = wd i) = true then _ ||| 2 ^ i else _); simp [c27]))) (lv_sub hl [1, 0] rfl)
          ·
            rw [k81]
            refine cO_i0 S0 hG hA h hl.1 kw_RX3_110_RX6 (rin17 _ (List.mem_of_getElem? (i := 5) rfl)) kdG_spoils (c_X6_spoils (q0 := 15) (ci := 6) rfl rfl) ⟨rfl, rfl, by decide, by decide, Nat.le_refl _, Nat.le_refl _⟩ rfl 6 15 rfl rfl rfl (Nat.le_of_ble_eq_true rfl) dX3_markMinute_84 (fun _ => rfl) (fun r u H locs hq h => ?_)
            obtain rfl := hq
            refine tN (t := spoilK (its (markN f wd i) i 0)) (nI_cong (by simp [spoilK, k81])) ?_
            refine n_add hx hb dX3_markMinute_87 ?_
            refine va_mmin hx hb (S0.2.2.1.trans hl.1.symm) S0.2.2.2.1 (S0.2.2.2.2 _ (rin21 _ (List.mem_of_getElem? (i := 4) rfl))) (S0.2.2.2.2 _ (rin21 _ (List.mem_of_getElem? (i := 5) rfl))) (S0.2.2.2.2 _ (rin11 _ (List.mem_of_getElem? (i := 4) rfl))) (S0.2.2.2.2 _ (rin21 _ (List.mem_of_getElem? (i := 6) rfl))) (by decide) (Nat.le_of_ble_eq_true rfl) (Nat.le_refl _) (Nat.le_refl _) dX3_markMinute_88 ?_
            refine tN (min_nI (by omega)) ?_
            refine sF_spoilt S0 hG h (by omega) dX3_markMinute_91 (fun H locs h => ?_)
            refine lv_iinc hx hb dX3_markMinute_92 hl (k := 1) rfl (inc_1 _) (by decide) rfl (fun ls hl => ?_)
            refine lv_goto (tgt := 7) hx hb dX3_markMinute_95 (by decide) ?_
            exact ih7 (i + 1) _ _ _ (by omega) (by omega) (h.eq (wF_fi (by show _ = mark1 (markN f wd i) wd i; unfold mark1; rw [k9]; first | rw [if_pos c27] | rw [if_neg c27]) (by show _ = (if decide (its f i 1 = wd i) = true then _ ||| 2 ^ i else _); simp [c27]))) (lv_sub hl [1, 0] rfl)
        ·
          refine lv_aload_n hx hb dX3_markMinute_30 rfl (lv_at hl 0 rfl) ?_
          refine gF_RX3_played S0 hG h dX3_markMinute_31 ?_
          refine lv_iload_n hx hb dX3_markMinute_34 rfl (lv_at hl 1 rfl) ?_
          refine lv_sipush (v := nI 9999) hx hb dX3_markMinute_35 (by decide) ?_
          refine lv_aload_n hx hb dX3_markMinute_38 rfl (lv_at hl 0 rfl) ?_
          refine gF_RX3_played S0 hG h dX3_markMinute_39 ?_
          refine lv_iload_n hx hb dX3_markMinute_42 rfl (lv_at hl 1 rfl) ?_
          refine rF_played S0 hG h (by omega) dX3_markMinute_43 ?_
          refine lv_iconst (v := nI 1) hx hb dX3_markMinute_44 (by decide) ?_
          refine n_add hx hb dX3_markMinute_45 ?_
          refine va_mmin hx hb (S0.2.2.1.trans hl.1.symm) S0.2.2.2.1 (S0.2.2.2.2 _ (rin21 _ (List.mem_of_getElem? (i := 4) rfl))) (S0.2.2.2.2 _ (rin21 _ (List.mem_of_getElem? (i := 5) rfl))) (S0.2.2.2.2 _ (rin11 _ (List.mem_of_getElem? (i := 4) rfl))) (S0.2.2.2.2 _ (rin21 _ (List.mem_of_getElem? (i := 6) rfl))) (by decide) (Nat.le_of_ble_eq_true rfl) (Nat.le_refl _) (Nat.le_refl _) dX3_markMinute_46 ?_
          refine tN (min_nI (by omega)) ?_
          refine sF_played S0 hG h (by omega) dX3_markMinute_49 (fun H locs h => ?_)
          refine lv_aload_n hx hb dX3_markMinute_50 rfl (lv_at hl 0 rfl) ?_
          refine lv_dup hx hb dX3_markMinute_51 rfl ?_
          refine gF_RX3_inTime S0 hG h dX3_markMinute_52 ?_
          refine lv_iconst (v := nI 1) hx hb dX3_markMinute_55 (by decide) ?_
          refine lv_iload_n hx hb dX3_markMinute_56 rfl (lv_at hl 1 rfl) ?_
          refine lv_ishl hx hb dX3_markMinute_57 ?_
          refine tN (sh1 _ (by omega)) ?_
          refine lv_ior hx hb dX3_markMinute_58 ?_
          refine tN (or_nI _ _) ?_
          refine pF_RX3_inTime S0 hG h dX3_markMinute_59 (fun H locs h => ?_)
          refine lv_goto (tgt := 92) hx hb dX3_markMinute_62 (by decide) ?_
          refine lv_iinc hx hb dX3_markMinute_92 hl (k := 1) rfl (inc_1 _) (by decide) rfl (fun ls hl => ?_)
          refine lv_goto (tgt := 7) hx hb dX3_markMinute_95 (by decide) ?_
          exact ih7 (i + 1) _ _ _ (by omega) (by omega) (h.eq (wF_fi (by show _ = mark1 (markN f wd i) wd i; unfold mark1; rw [k9]; first | rw [if_pos c27] | rw [if_neg c27]) (by show _ = (if decide (its f i 1 = wd i) = true then _ ||| 2 ^ i else _); simp [c27]))) (lv_sub hl [1, 0] rfl)
  refine lv_aload_n hx hb dX3_markMinute_0 rfl (lv_at hl 0 rfl) ?_
  refine lv_iconst (v := nI 0) hx hb dX3_markMinute_1 (by decide) ?_
  refine pF_RX3_inTime S0 hG h dX3_markMinute_2 (fun H locs h => ?_)
  refine lv_iconst (v := nI 0) hx hb dX3_markMinute_5 (by decide) ?_
  refine lv_istore_n hx hb dX3_markMinute_6 rfl hl (by decide) rfl (fun ls hl => ?_)
  exact lp7 _ 0 _ _ _ (Nat.zero_le _) (Nat.lt_succ_self _) h (lv_sub hl [1, 0] rfl)
theorem kw_RX3_107 : GoodIn wsL_law (wsV RX3 107 RX3 yX3_markMinute (WS yX3_markMinute cX3_markMinute 2 none)) := gV (rin21 _ (List.mem_of_getElem? (i := 10) rfl)) (rin21 _ (List.mem_of_getElem? (i := 11) rfl)) (rin21 _ (List.mem_of_getElem? (i := 12) rfl)) (rin2 _ (List.mem_of_getElem? (i := 3) rfl)) (rin21 _ (List.mem_of_getElem? (i := 13) rfl))
theorem kw_RX3_90 : GoodIn wsL_law (wsV RX3 90 RX3 yX3_dueOf (WS yX3_dueOf cX3_dueOf 3 (some .int))) := gV (rin8 _ (List.mem_of_getElem? (i := 17) rfl)) (rin8 _ (List.mem_of_getElem? (i := 18) rfl)) (rin8 _ (List.mem_of_getElem? (i := 19) rfl)) (rin2 _ (List.mem_of_getElem? (i := 3) rfl)) (rin8 _ (List.mem_of_getElem? (i := 20) rfl))
theorem kw_RX3_94 : GoodIn wsL_law (wsV RX3 94 RX4 yX4_walks (WS yX4_walks cX4_walks 4 (some .int))) := gV (rin21 _ (List.mem_of_getElem? (i := 9) rfl)) (rin16 _ (List.mem_of_getElem? (i := 9) rfl)) (rin16 _ (List.mem_of_getElem? (i := 11) rfl)) (rin2 _ (List.mem_of_getElem? (i := 23) rfl)) (rin16 _ (List.mem_of_getElem? (i := 0) rfl))
theorem kw_RX3_94_RX2 : GoodIn wsL_law (va_wsO RX3 94 RX2 "ComposedInterval$Guest" yX4_walks yX2_walks (WS yX2_walks cX2_walks 4 (some .int))) := gO (rin21 _ (List.mem_of_getElem? (i := 9) rfl)) (rin15 _ (List.mem_of_getElem? (i := 15) rfl)) (rin16 _ (List.mem_of_getElem? (i := 9) rfl)) (rin16 _ (List.mem_of_getElem? (i := 1) rfl)) (rin16 _ (List.mem_of_getElem? (i := 2) rfl)) (rin3 _ (List.mem_of_getElem? (i := 3) rfl)) (rin16 _ (List.mem_of_getElem? (i := 3) rfl))
theorem kw_RX3_94_RX8 : GoodIn wsL_law (va_wsO RX3 94 RX8 "ComposedInterval$Guest" yX4_walks yX8_walks (WS yX8_walks cX8_walks 4 (some .int))) := gO (rin21 _ (List.mem_of_getElem? (i := 9) rfl)) (rin15 _ (List.mem_of_getElem? (i := 15) rfl)) (rin16 _ (List.mem_of_getElem? (i := 9) rfl)) (rin16 _ (List.mem_of_getElem? (i := 18) rfl)) (rin15 _ (List.mem_of_getElem? (i := 22) rfl)) (rin3 _ (List.mem_of_getElem? (i := 7) rfl)) (rin15 _ (List.mem_of_getElem? (i := 23) rfl))
theorem kw_RX3_94_RX5 : GoodIn wsL_law (va_wsO RX3 94 RX5 "ComposedInterval$Guest" yX4_walks yX5_walks (WS yX5_walks cX5_walks 4 (some .int))) := gO (rin21 _ (List.mem_of_getElem? (i := 9) rfl)) (rin15 _ (List.mem_of_getElem? (i := 15) rfl)) (rin16 _ (List.mem_of_getElem? (i := 9) rfl)) (rin16 _ (List.mem_of_getElem? (i := 12) rfl)) (rin16 _ (List.mem_of_getElem? (i := 13) rfl)) (rin3 _ (List.mem_of_getElem? (i := 11) rfl)) (rin16 _ (List.mem_of_getElem? (i := 14) rfl))
theorem kw_RX3_94_RX1 : GoodIn wsL_law (va_wsO RX3 94 RX1 "ComposedInterval$Guest" yX4_walks yX1_walks (WS yX1_walks cX1_walks 4 (some .int))) := gO (rin21 _ (List.mem_of_getElem? (i := 9) rfl)) (rin15 _ (List.mem_of_getElem? (i := 15) rfl)) (rin16 _ (List.mem_of_getElem? (i := 9) rfl)) (rin15 _ (List.mem_of_getElem? (i := 17) rfl)) (rin15 _ (List.mem_of_getElem? (i := 18) rfl)) (rin3 _ (List.mem_of_getElem? (i := 15) rfl)) (rin15 _ (List.mem_of_getElem? (i := 19) rfl))
theorem kw_RX3_94_RX6 : GoodIn wsL_law (va_wsO RX3 94 RX6 "ComposedInterval$Guest" yX4_walks yX2_walks (WS yX2_walks cX2_walks 4 (some .int))) := gO (rin21 _ (List.mem_of_getElem? (i := 9) rfl)) (rin15 _ (List.mem_of_getElem? (i := 15) rfl)) (rin16 _ (List.mem_of_getElem? (i := 9) rfl)) (rin16 _ (List.mem_of_getElem? (i := 17) rfl)) (rin16 _ (List.mem_of_getElem? (i := 2) rfl)) (rin3 _ (List.mem_of_getElem? (i := 3) rfl)) (rin16 _ (List.mem_of_getElem? (i := 3) rfl))
theorem kw_RX3_87 : GoodIn wsL_law (wsV RX3 87 RX3 yX3_look (WS yX3_look cX3_look 3 none)) := gV (rin21 _ (List.mem_of_getElem? (i := 7) rfl)) (rin8 _ (List.mem_of_getElem? (i := 11) rfl)) (rin8 _ (List.mem_of_getElem? (i := 12) rfl)) (rin2 _ (List.mem_of_getElem? (i := 3) rfl)) (rin8 _ (List.mem_of_getElem? (i := 13) rfl))
theorem kdV_X3_markMinute : yX3_markMinute.cls = RX3 ∧ yX3_markMinute.cls ≠ "java/lang/invoke/MethodHandle" ∧ yX3_markMinute.cls ≠ "java/lang/invoke/VarHandle" ∧ (parseMethodDescriptor yX3_markMinute.desc).map (fun d => d.parameters.length) = some 0 := ⟨rfl, by decide +kernel, by decide +kernel, by decide +kernel⟩
theorem kdV_X3_dueOf : yX3_dueOf.cls = RX3 ∧ yX3_dueOf.cls ≠ "java/lang/invoke/MethodHandle" ∧ yX3_dueOf.cls ≠ "java/lang/invoke/VarHandle" ∧ (parseMethodDescriptor yX3_dueOf.desc).map (fun d => d.parameters.length) = some 1 := ⟨rfl, by decide +kernel, by decide +kernel, by decide +kernel⟩
theorem kdV_X4_walks : yX4_walks.cls = RX4 ∧ yX4_walks.cls ≠ "java/lang/invoke/MethodHandle" ∧ yX4_walks.cls ≠ "java/lang/invoke/VarHandle" ∧ (parseMethodDescriptor yX4_walks.desc).map (fun d => d.parameters.length) = some 3 := ⟨rfl, by decide +kernel, by decide +kernel, by decide +kernel⟩
theorem kdG_walks : ("ComposedInterval$Guest" : String) ≠ "java/lang/invoke/MethodHandle" ∧ ("ComposedInterval$Guest" : String) ≠ "java/lang/invoke/VarHandle" ∧ (parseMethodDescriptor yX4_walks.desc).map (fun d => d.parameters.length) = some 3 := ⟨by decide +kernel, by decide +kernel, by decide +kernel⟩
theorem kdV_X3_look : yX3_look.cls = RX3 ∧ yX3_look.cls ≠ "java/lang/invoke/MethodHandle" ∧ yX3_look.cls ≠ "java/lang/invoke/VarHandle" ∧ (parseMethodDescriptor yX3_look.desc).map (fun d => d.parameters.length) = some 0 := ⟨rfl, by decide +kernel, by decide +kernel, by decide +kernel⟩
set_option maxHeartbeats 4000000 in
set_option maxRecDepth 100000 in
theorem c_X3_passMinute (hI : Inv f) (h0 : f 0 < 200000) : Kv G l yX3_passMinute cX3_passMinute 5 none (RM 5 89) [.ref (a 0)] (wF G a f q sp rg wd it) (fun u : Nat × Nat × Int32 × (Nat → Nat) × Nat => wF G a (minF f) u.1 u.2.1 u.2.2.1 u.2.2.2.1 u.2.2.2.2) (fun u => u.2.2.2.2 = timeF f) := by
  refine Kv.of (by decide) (Nat.le_of_ble_eq_true rfl) ?_
  intro p e s m args below meth c A Q ls hx hb S0 hG hA h hret hl
  have S0 : CF p m c cX3_passMinute 5 s args RX3 := S0
  have hl : lv_has ls 5 [(0, .ref (a 0))] := hl
  have h1 := hI.2.1
  have lp6 : ∀ (kf : Nat) (i : Nat) (H : Heap) (locs : List Loc) (ls : Array Slot) (hi : i ≤ f 1), f 1 - i < kf → WX G A s H locs (wF G a (walkN f i) (qtr f) (sc f (qtr f)) (ring f) (dueN f wd i) it) → lv_has ls 5 [(0, .ref (a 0)), (1, .int (nI i))] → W p l e (RM 5 89) s m args below meth c H locs 0 0 Q (F0 m 6 ls []) := by
    intro kf
    induction kf with
    | zero => intro i H locs ls hi hm; exact absurd hm (Nat.not_lt_zero _)
    | succ kf ih6 =>
      intro i H locs ls hi hm h hl
      have hI9 := walkN_inv hI i (by omega)
      refine lv_iload_n hx hb dX3_passMinute_6 rfl (lv_at hl 1 rfl) ?_
      refine lv_aload_n hx hb dX3_passMinute_7 rfl (lv_at hl 0 rfl) ?_
      refine gF_RX3_people S0 hG h dX3_passMinute_8 ?_
      refine tN (nI_cong (walkN_lo f (by omega) i)) ?_
      refine n_cge hx hb (by omega) (by omega) (tgt := 83) dX3_passMinute_11 (by decide) (fun c11 => ?_) (fun c11 => ?_)
      ·
        have e9 : i = f 1 := by omega
        subst e9
        have w9 := walkN_inv hI _ h1
        have w7 := walkN_lo f (k := 1) (by omega) (f 1)
        have w8 : ∀ p, p < walkN f (f 1) 1 → dueN f wd (f 1) p ≤ 11 := fun p hp => by rw [w7] at hp; rw [dueN_at f wd _ hp]; exact due_le (walkN_inv hI p (by omega)) p
        refine lv_aload_n hx hb dX3_passMinute_83 rfl (lv_at hl 0 rfl) ?_
        refine cV_v0 S0 hG hA h hl.1 kw_RX3_107 kdV_X3_markMinute (c_X3_markMinute w9 w8) ⟨rfl, rfl, by decide, by decide, Nat.le_refl _, Nat.le_refl _⟩ rfl 3 0 rfl rfl rfl (Nat.le_of_ble_eq_true rfl) dX3_passMinute_84 (fun _ => rfl) (fun u H locs hq h => ?_)
        have h : WX G A s _ _ (wF G a (markN (walkN f (f 1)) (duF f) (f 1)) (qtr f) (sc f (qtr f)) (ring f) (dueN f wd (f 1)) (timeF f)) := h.eq (wF_fi (by rw [w7]; exact markN_cong (fun p hp => dueN_at f wd _ hp)) (by rw [w7]; exact setN_cong (fun p hp => by rw [dueN_at f wd _ hp])))
        refine lv_aload_n hx hb dX3_passMinute_87 rfl (lv_at hl 0 rfl) ?_
        refine lv_dup hx hb dX3_passMinute_88 rfl ?_
        refine gF_RX3_minute S0 hG h dX3_passMinute_89 ?_
        refine tN (t := f 0) (nI_cong ((markN_lo _ _ (by omega) _).trans (walkN_lo f (by omega) _))) ?_
        refine lv_iconst (v := nI 1) hx hb dX3_passMinute_92 (by decide) ?_
        refine n_add hx hb dX3_passMinute_93 ?_
        refine pF_RX3_minute S0 hG h dX3_passMinute_94 (fun H locs h => ?_)
        exact hret (_, _, _, _, _) _ _ _ _ rfl h dX3_passMinute_97
      ·
        refine lv_aload_n hx hb dX3_passMinute_14 rfl (lv_at hl 0 rfl) ?_
        refine lv_iload_n hx hb dX3_passMinute_15 rfl (lv_at hl 1 rfl) ?_
        refine cV_i0 S0 hG hA h hl.1 kw_RX3_90 kdV_X3_dueOf (c_X3_dueOf (by omega) hI9 (walkN_qtr f i).symm (walkN_sc f i).symm (walkN_ring f i).symm) ⟨rfl, rfl, by decide, by decide, Nat.le_refl _, Nat.le_refl _⟩ rfl 3 0 rfl rfl rfl (Nat.le_of_ble_eq_true rfl) dX3_passMinute_16 (fun _ => rfl) (fun r u H locs hq h => ?_)
        obtain rfl := hq
        refine lv_istore_n hx hb dX3_passMinute_19 rfl hl (by decide) rfl (fun ls hl => ?_)
        have h5 := hI9.2.2.2.2 i (by omega)
        have h6 := due_le hI9 i
        have h7 := walk_le hI9 (p := i) (by omega)
        refine lv_iload_n hx hb dX3_passMinute_20 rfl (lv_at hl 0 rfl) ?_
        refine lv_aload_n hx hb dX3_passMinute_21 rfl (lv_at hl 1 rfl) ?_
        refine gF_RX3_at S0 hG h dX3_passMinute_22 ?_
        refine lv_iload_n hx hb dX3_passMinute_25 rfl (lv_at hl 2 rfl) ?_
        refine rF_at S0 hG h (by omega) dX3_passMinute_26 ?_
        refine lv_isub hx hb dX3_passMinute_27 ?_
        refine lv_istore_n hx hb dX3_passMinute_28 rfl hl (by decide) rfl (fun ls hl => ?_)
        refine lv_aload_n hx hb dX3_passMinute_29 rfl (lv_at hl 2 rfl) ?_
        refine lv_iload_n hx hb dX3_passMinute_30 rfl (lv_at hl 3 rfl) ?_
        refine cV_r0 S0 hG hA h hl.1 kw_RX3_71 kdV_X3_guest (c_X3_guest (by omega) hI9) ⟨rfl, rfl, by decide, by decide, Nat.le_refl _, Nat.le_refl _⟩ rfl 3 0 rfl rfl rfl (Nat.le_of_ble_eq_true rfl) dX3_passMinute_31 (fun _ => rfl) (fun u H locs hq h => ?_)
        rcases (show its (walkN f i) i 0 = 0 ∨ its (walkN f i) i 0 = 1 ∨ its (walkN f i) i 0 = 2 ∨ its (walkN f i) i 0 = 3 ∨ its (walkN f i) i 0 = 4 ∨ its (walkN f i) i 0 = 5 by omega) with k31 | k31 | k31 | k31 | k31 | k31
        ·
          rw [k31]
          refine lv_aload_n hx hb dX3_passMinute_34 rfl (lv_at hl 2 rfl) ?_
          refine lv_iload_n hx hb dX3_passMinute_35 rfl (lv_at hl 3 rfl) ?_
          refine lv_iload_n hx hb dX3_passMinute_36 rfl (lv_at hl 1 rfl) ?_
          refine cV_i0 S0 hG hA h hl.1 kw_RX3_94 kdV_X4_walks (c_X4_walks (by omega)) ⟨rfl, rfl, by decide, by decide, Nat.le_refl _, Nat.le_refl _⟩ rfl 4 10 rfl rfl rfl (Nat.le_of_ble_eq_true rfl) dX3_passMinute_37 (fun _ => rfl) (fun r u H locs hq h => ?_)
          obtain rfl := hq
          refine tN (t := walk (walkN f i) i) (nI_cong (by simp [walk, k31])) ?_
          refine lv_iload_n hx hb dX3_passMinute_40 rfl (lv_at hl 0 rfl) ?_
          refine va_mabs hx hb (S0.2.2.1.trans hl.1.symm) S0.2.2.2.1 (S0.2.2.2.2 _ (rin21 _ (List.mem_of_getElem? (i := 1) rfl))) (S0.2.2.2.2 _ (rin21 _ (List.mem_of_getElem? (i := 2) rfl))) (S0.2.2.2.2 _ (rin11 _ (List.mem_of_getElem? (i := 4) rfl))) (S0.2.2.2.2 _ (rin21 _ (List.mem_of_getElem? (i := 3) rfl))) (by decide) (Nat.le_of_ble_eq_true rfl) (Nat.le_refl _) (Nat.le_refl _) dX3_passMinute_41 ?_
          refine va_mmin hx hb (S0.2.2.1.trans hl.1.symm) S0.2.2.2.1 (S0.2.2.2.2 _ (rin21 _ (List.mem_of_getElem? (i := 4) rfl))) (S0.2.2.2.2 _ (rin21 _ (List.mem_of_getElem? (i := 5) rfl))) (S0.2.2.2.2 _ (rin11 _ (List.mem_of_getElem? (i := 4) rfl))) (S0.2.2.2.2 _ (rin21 _ (List.mem_of_getElem? (i := 6) rfl))) (by decide) (Nat.le_of_ble_eq_true rfl) (Nat.le_refl _) (Nat.le_refl _) dX3_passMinute_44 ?_
          refine lv_istore hx hb dX3_passMinute_47 hl (by decide) rfl (fun ls hl => ?_)
          refine lv_aload_n hx hb dX3_passMinute_49 rfl (lv_at hl 3 rfl) ?_
          refine gF_RX3_at S0 hG h dX3_passMinute_50 ?_
          refine lv_iload_n hx hb dX3_passMinute_53 rfl (lv_at hl 4 rfl) ?_
          refine lv_dup2_11 hx hb dX3_passMinute_54 rfl rfl ?_
          refine rF_at S0 hG h (by omega) dX3_passMinute_55 ?_
          refine lv_iload_n hx hb dX3_passMinute_56 rfl (lv_at hl 1 rfl) ?_
          refine lv_if_le hx hb (tgt := 65) dX3_passMinute_57 (by decide) (fun c57 => ?_) (fun c57 => ?_)
          ·
            refine lv_iload hx hb dX3_passMinute_65 (lv_at hl 0 rfl) ?_
            refine lv_ineg hx hb dX3_passMinute_67 ?_
            refine lv_iadd hx hb dX3_passMinute_68 ?_
            refine tN (t := newAt (walkN f i) i) ((go_nI (its (walkN f i) i 1) (by omega) (due (walkN f i) i) (by omega) (walk (walkN f i) i) (by omega)).1 c57) ?_
            refine sF_at S0 hG h (by omega) dX3_passMinute_69 (fun H locs h => ?_)
            refine lv_aload_n hx hb dX3_passMinute_70 rfl (lv_at hl 3 rfl) ?_
            refine gF_RX3_wasDue S0 hG h dX3_passMinute_71 ?_
            refine lv_iload_n hx hb dX3_passMinute_74 rfl (lv_at hl 4 rfl) ?_
            refine lv_iload_n hx hb dX3_passMinute_75 rfl (lv_at hl 2 rfl) ?_
            refine sF_wasDue S0 hG h (by omega) dX3_passMinute_76 (fun H locs h => ?_)
            refine lv_iinc hx hb dX3_passMinute_77 hl (k := 4) rfl (inc_1 _) (by decide) rfl (fun ls hl => ?_)
            refine lv_goto (tgt := 6) hx hb dX3_passMinute_80 (by decide) ?_
            exact ih6 (i + 1) _ _ _ (by omega) (by omega) h (lv_sub hl [4, 0] rfl)
          ·
            refine lv_iload hx hb dX3_passMinute_60 (lv_at hl 0 rfl) ?_
            refine lv_goto (tgt := 68) hx hb dX3_passMinute_62 (by decide) ?_
            refine lv_iadd hx hb dX3_passMinute_68 ?_
            refine tN (t := newAt (walkN f i) i) ((go_nI (its (walkN f i) i 1) (by omega) (due (walkN f i) i) (by omega) (walk (walkN f i) i) (by omega)).2 c57) ?_
            refine sF_at S0 hG h (by omega) dX3_passMinute_69 (fun H locs h => ?_)
            refine lv_aload_n hx hb dX3_passMinute_70 rfl (lv_at hl 3 rfl) ?_
            refine gF_RX3_wasDue S0 hG h dX3_passMinute_71 ?_
            refine lv_iload_n hx hb dX3_passMinute_74 rfl (lv_at hl 4 rfl) ?_
            refine lv_iload_n hx hb dX3_passMinute_75 rfl (lv_at hl 2 rfl) ?_
            refine sF_wasDue S0 hG h (by omega) dX3_passMinute_76 (fun H locs h => ?_)
            refine lv_iinc hx hb dX3_passMinute_77 hl (k := 4) rfl (inc_1 _) (by decide) rfl (fun ls hl => ?_)
            refine lv_goto (tgt := 6) hx hb dX3_passMinute_80 (by decide) ?_
            exact ih6 (i + 1) _ _ _ (by omega) (by omega) h (lv_sub hl [4, 0] rfl)
        ·
          rw [k31]
          refine lv_aload_n hx hb dX3_passMinute_34 rfl (lv_at hl 2 rfl) ?_
          refine lv_iload_n hx hb dX3_passMinute_35 rfl (lv_at hl 3 rfl) ?_
          refine lv_iload_n hx hb dX3_passMinute_36 rfl (lv_at hl 1 rfl) ?_
          refine cO_i0 S0 hG hA h hl.1 kw_RX3_94_RX2 (rin16 _ (List.mem_of_getElem? (i := 0) rfl)) kdG_walks (c_X2_walks (q0 := 11) (ci := 2) rfl rfl (by omega) hI9 rfl) ⟨rfl, rfl, by decide, by decide, Nat.le_refl _, Nat.le_refl _⟩ rfl 2 11 rfl rfl rfl (Nat.le_of_ble_eq_true rfl) dX3_passMinute_37 (fun _ => rfl) (fun r u H locs hq h => ?_)
          obtain rfl := hq
          refine tN (t := walk (walkN f i) i) (nI_cong (by simp [walk, k31])) ?_
          refine lv_iload_n hx hb dX3_passMinute_40 rfl (lv_at hl 0 rfl) ?_
          refine va_mabs hx hb (S0.2.2.1.trans hl.1.symm) S0.2.2.2.1 (S0.2.2.2.2 _ (rin21 _ (List.mem_of_getElem? (i := 1) rfl))) (S0.2.2.2.2 _ (rin21 _ (List.mem_of_getElem? (i := 2) rfl))) (S0.2.2.2.2 _ (rin11 _ (List.mem_of_getElem? (i := 4) rfl))) (S0.2.2.2.2 _ (rin21 _ (List.mem_of_getElem? (i := 3) rfl))) (by decide) (Nat.le_of_ble_eq_true rfl) (Nat.le_refl _) (Nat.le_refl _) dX3_passMinute_41 ?_
          refine va_mmin hx hb (S0.2.2.1.trans hl.1.symm) S0.2.2.2.1 (S0.2.2.2.2 _ (rin21 _ (List.mem_of_getElem? (i := 4) rfl))) (S0.2.2.2.2 _ (rin21 _ (List.mem_of_getElem? (i := 5) rfl))) (S0.2.2.2.2 _ (rin11 _ (List.mem_of_getElem? (i := 4) rfl))) (S0.2.2.2.2 _ (rin21 _ (List.mem_of_getElem? (i := 6) rfl))) (by decide) (Nat.le_of_ble_eq_true rfl) (Nat.le_refl _) (Nat.le_refl _) dX3_passMinute_44 ?_
          refine lv_istore hx hb dX3_passMinute_47 hl (by decide) rfl (fun ls hl => ?_)
          refine lv_aload_n hx hb dX3_passMinute_49 rfl (lv_at hl 3 rfl) ?_
          refine gF_RX3_at S0 hG h dX3_passMinute_50 ?_
          refine lv_iload_n hx hb dX3_passMinute_53 rfl (lv_at hl 4 rfl) ?_
          refine lv_dup2_11 hx hb dX3_passMinute_54 rfl rfl ?_
          refine rF_at S0 hG h (by omega) dX3_passMinute_55 ?_
          refine lv_iload_n hx hb dX3_passMinute_56 rfl (lv_at hl 1 rfl) ?_
          refine lv_if_le hx hb (tgt := 65) dX3_passMinute_57 (by decide) (fun c57 => ?_) (fun c57 => ?_)
          ·
            refine lv_iload hx hb dX3_passMinute_65 (lv_at hl 0 rfl) ?_
            refine lv_ineg hx hb dX3_passMinute_67 ?_
            refine lv_iadd hx hb dX3_passMinute_68 ?_
            refine tN (t := newAt (walkN f i) i) ((go_nI (its (walkN f i) i 1) (by omega) (due (walkN f i) i) (by omega) (walk (walkN f i) i) (by omega)).1 c57) ?_
            refine sF_at S0 hG h (by omega) dX3_passMinute_69 (fun H locs h => ?_)
            refine lv_aload_n hx hb dX3_passMinute_70 rfl (lv_at hl 3 rfl) ?_
            refine gF_RX3_wasDue S0 hG h dX3_passMinute_71 ?_
            refine lv_iload_n hx hb dX3_passMinute_74 rfl (lv_at hl 4 rfl) ?_
            refine lv_iload_n hx hb dX3_passMinute_75 rfl (lv_at hl 2 rfl) ?_
            refine sF_wasDue S0 hG h (by omega) dX3_passMinute_76 (fun H locs h => ?_)
            refine lv_iinc hx hb dX3_passMinute_77 hl (k := 4) rfl (inc_1 _) (by decide) rfl (fun ls hl => ?_)
            refine lv_goto (tgt := 6) hx hb dX3_passMinute_80 (by decide) ?_
            exact ih6 (i + 1) _ _ _ (by omega) (by omega) h (lv_sub hl [4, 0] rfl)
          ·
            refine lv_iload hx hb dX3_passMinute_60 (lv_at hl 0 rfl) ?_
            refine lv_goto (tgt := 68) hx hb dX3_passMinute_62 (by decide) ?_
            refine lv_iadd hx hb dX3_passMinute_68 ?_
            refine tN (t := newAt (walkN f i) i) ((go_nI (its (walkN f i) i 1) (by omega) (due (walkN f i) i) (by omega) (walk (walkN f i) i) (by omega)).2 c57) ?_
            refine sF_at S0 hG h (by omega) dX3_passMinute_69 (fun H locs h => ?_)
            refine lv_aload_n hx hb dX3_passMinute_70 rfl (lv_at hl 3 rfl) ?_
            refine gF_RX3_wasDue S0 hG h dX3_passMinute_71 ?_
            refine lv_iload_n hx hb dX3_passMinute_74 rfl (lv_at hl 4 rfl) ?_
            refine lv_iload_n hx hb dX3_passMinute_75 rfl (lv_at hl 2 rfl) ?_
            refine sF_wasDue S0 hG h (by omega) dX3_passMinute_76 (fun H locs h => ?_)
            refine lv_iinc hx hb dX3_passMinute_77 hl (k := 4) rfl (inc_1 _) (by decide) rfl (fun ls hl => ?_)
            refine lv_goto (tgt := 6) hx hb dX3_passMinute_80 (by decide) ?_
            exact ih6 (i + 1) _ _ _ (by omega) (by omega) h (lv_sub hl [4, 0] rfl)
        ·
          rw [k31]
          refine lv_aload_n hx hb dX3_passMinute_34 rfl (lv_at hl 2 rfl) ?_
          refine lv_iload_n hx hb dX3_passMinute_35 rfl (lv_at hl 3 rfl) ?_
          refine lv_iload_n hx hb dX3_passMinute_36 rfl (lv_at hl 1 rfl) ?_
          refine cO_i0 S0 hG hA h hl.1 kw_RX3_94_RX8 (rin16 _ (List.mem_of_getElem? (i := 0) rfl)) kdG_walks (c_X8_walks) ⟨rfl, rfl, by decide, by decide, Nat.le_refl _, Nat.le_refl _⟩ rfl 8 12 rfl rfl rfl (Nat.le_of_ble_eq_true rfl) dX3_passMinute_37 (fun _ => rfl) (fun r u H locs hq h => ?_)
          obtain rfl := hq
          refine tN (t := walk (walkN f i) i) (nI_cong (by simp [walk, k31])) ?_
          refine lv_iload_n hx hb dX3_passMinute_40 rfl (lv_at hl 0 rfl) ?_
          refine va_mabs hx hb (S0.2.2.1.trans hl.1.symm) S0.2.2.2.1 (S0.2.2.2.2 _ (rin21 _ (List.mem_of_getElem? (i := 1) rfl))) (S0.2.2.2.2 _ (rin21 _ (List.mem_of_getElem? (i := 2) rfl))) (S0.2.2.2.2 _ (rin11 _ (List.mem_of_getElem? (i := 4) rfl))) (S0.2.2.2.2 _ (rin21 _ (List.mem_of_getElem? (i := 3) rfl))) (by decide) (Nat.le_of_ble_eq_true rfl) (Nat.le_refl _) (Nat.le_refl _) dX3_passMinute_41 ?_
          refine va_mmin hx hb (S0.2.2.1.trans hl.1.symm) S0.2.2.2.1 (S0.2.2.2.2 _ (rin21 _ (List.mem_of_getElem? (i := 4) rfl))) (S0.2.2.2.2 _ (rin21 _ (List.mem_of_getElem? (i := 5) rfl))) (S0.2.2.2.2 _ (rin11 _ (List.mem_of_getElem? (i := 4) rfl))) (S0.2.2.2.2 _ (rin21 _ (List.mem_of_getElem? (i := 6) rfl))) (by decide) (Nat.le_of_ble_eq_true rfl) (Nat.le_refl _) (Nat.le_refl _) dX3_passMinute_44 ?_
          refine lv_istore hx hb dX3_passMinute_47 hl (by decide) rfl (fun ls hl => ?_)
          refine lv_aload_n hx hb dX3_passMinute_49 rfl (lv_at hl 3 rfl) ?_
          refine gF_RX3_at S0 hG h dX3_passMinute_50 ?_
          refine lv_iload_n hx hb dX3_passMinute_53 rfl (lv_at hl 4 rfl) ?_
          refine lv_dup2_11 hx hb dX3_passMinute_54 rfl rfl ?_
          refine rF_at S0 hG h (by omega) dX3_passMinute_55 ?_
          refine lv_iload_n hx hb dX3_passMinute_56 rfl (lv_at hl 1 rfl) ?_
          refine lv_if_le hx hb (tgt := 65) dX3_passMinute_57 (by decide) (fun c57 => ?_) (fun c57 => ?_)
          ·
            refine lv_iload hx hb dX3_passMinute_65 (lv_at hl 0 rfl) ?_
            refine lv_ineg hx hb dX3_passMinute_67 ?_
            refine lv_iadd hx hb dX3_passMinute_68 ?_
            refine tN (t := newAt (walkN f i) i) ((go_nI (its (walkN f i) i 1) (by omega) (due (walkN f i) i) (by omega) (walk (walkN f i) i) (by omega)).1 c57) ?_
            refine sF_at S0 hG h (by omega) dX3_passMinute_69 (fun H locs h => ?_)
            refine lv_aload_n hx hb dX3_passMinute_70 rfl (lv_at hl 3 rfl) ?_
            refine gF_RX3_wasDue S0 hG h dX3_passMinute_71 ?_
            refine lv_iload_n hx hb dX3_passMinute_74 rfl (lv_at hl 4 rfl) ?_
            refine lv_iload_n hx hb dX3_passMinute_75 rfl (lv_at hl 2 rfl) ?_
            refine sF_wasDue S0 hG h (by omega) dX3_passMinute_76 (fun H locs h => ?_)
            refine lv_iinc hx hb dX3_passMinute_77 hl (k := 4) rfl (inc_1 _) (by decide) rfl (fun ls hl => ?_)
            refine lv_goto (tgt := 6) hx hb dX3_passMinute_80 (by decide) ?_
            exact ih6 (i + 1) _ _ _ (by omega) (by omega) h (lv_sub hl [4, 0] rfl)
          ·
            refine lv_iload hx hb dX3_passMinute_60 (lv_at hl 0 rfl) ?_
            refine lv_goto (tgt := 68) hx hb dX3_passMinute_62 (by decide) ?_
            refine lv_iadd hx hb dX3_passMinute_68 ?_
            refine tN (t := newAt (walkN f i) i) ((go_nI (its (walkN f i) i 1) (by omega) (due (walkN f i) i) (by omega) (walk (walkN f i) i) (by omega)).2 c57) ?_
            refine sF_at S0 hG h (by omega) dX3_passMinute_69 (fun H locs h => ?_)
            refine lv_aload_n hx hb dX3_passMinute_70 rfl (lv_at hl 3 rfl) ?_
            refine gF_RX3_wasDue S0 hG h dX3_passMinute_71 ?_
            refine lv_iload_n hx hb dX3_passMinute_74 rfl (lv_at hl 4 rfl) ?_
            refine lv_iload_n hx hb dX3_passMinute_75 rfl (lv_at hl 2 rfl) ?_
            refine sF_wasDue S0 hG h (by omega) dX3_passMinute_76 (fun H locs h => ?_)
            refine lv_iinc hx hb dX3_passMinute_77 hl (k := 4) rfl (inc_1 _) (by decide) rfl (fun ls hl => ?_)
            refine lv_goto (tgt := 6) hx hb dX3_passMinute_80 (by decide) ?_
            exact ih6 (i + 1) _ _ _ (by omega) (by omega) h (lv_sub hl [4, 0] rfl)
        ·
          rw [k31]
          refine lv_aload_n hx hb dX3_passMinute_34 rfl (lv_at hl 2 rfl) ?_
          refine lv_iload_n hx hb dX3_passMinute_35 rfl (lv_at hl 3 rfl) ?_
          refine lv_iload_n hx hb dX3_passMinute_36 rfl (lv_at hl 1 rfl) ?_
          refine cO_i0 S0 hG hA h hl.1 kw_RX3_94_RX5 (rin16 _ (List.mem_of_getElem? (i := 0) rfl)) kdG_walks (c_X5_walks (q0 := 13) (ci := 5) rfl rfl (by omega)) ⟨rfl, rfl, by decide, by decide, Nat.le_refl _, Nat.le_refl _⟩ rfl 5 13 rfl rfl rfl (Nat.le_of_ble_eq_true rfl) dX3_passMinute_37 (fun _ => rfl) (fun r u H locs hq h => ?_)
          obtain rfl := hq
          refine tN (t := walk (walkN f i) i) (nI_cong (by simp [walk, k31])) ?_
          refine lv_iload_n hx hb dX3_passMinute_40 rfl (lv_at hl 0 rfl) ?_
          refine va_mabs hx hb (S0.2.2.1.trans hl.1.symm) S0.2.2.2.1 (S0.2.2.2.2 _ (rin21 _ (List.mem_of_getElem? (i := 1) rfl))) (S0.2.2.2.2 _ (rin21 _ (List.mem_of_getElem? (i := 2) rfl))) (S0.2.2.2.2 _ (rin11 _ (List.mem_of_getElem? (i := 4) rfl))) (S0.2.2.2.2 _ (rin21 _ (List.mem_of_getElem? (i := 3) rfl))) (by decide) (Nat.le_of_ble_eq_true rfl) (Nat.le_refl _) (Nat.le_refl _) dX3_passMinute_41 ?_
          refine va_mmin hx hb (S0.2.2.1.trans hl.1.symm) S0.2.2.2.1 (S0.2.2.2.2 _ (rin21 _ (List.mem_of_getElem? (i := 4) rfl))) (S0.2.2.2.2 _ (rin21 _ (List.mem_of_getElem? (i := 5) rfl))) (S0.2.2.2.2 _ (rin11 _ (List.mem_of_getElem? (i := 4) rfl))) (S0.2.2.2.2 _ (rin21 _ (List.mem_of_getElem? (i := 6) rfl))) (by decide) (Nat.le_of_ble_eq_true rfl) (Nat.le_refl _) (Nat.le_refl _) dX3_passMinute_44 ?_
          refine lv_istore hx hb dX3_passMinute_47 hl (by decide) rfl (fun ls hl => ?_)
          refine lv_aload_n hx hb dX3_passMinute_49 rfl (lv_at hl 3 rfl) ?_
          refine gF_RX3_at S0 hG h dX3_passMinute_50 ?_
          refine lv_iload_n hx hb dX3_passMinute_53 rfl (lv_at hl 4 rfl) ?_
          refine lv_dup2_11 hx hb dX3_passMinute_54 rfl rfl ?_
          refine rF_at S0 hG h (by omega) dX3_passMinute_55 ?_
          refine lv_iload_n hx hb dX3_passMinute_56 rfl (lv_at hl 1 rfl) ?_
          refine lv_if_le hx hb (tgt := 65) dX3_passMinute_57 (by decide) (fun c57 => ?_) (fun c57 => ?_)
          ·
            refine lv_iload hx hb dX3_passMinute_65 (lv_at hl 0 rfl) ?_
            refine lv_ineg hx hb dX3_passMinute_67 ?_
            refine lv_iadd hx hb dX3_passMinute_68 ?_
            refine tN (t := newAt (walkN f i) i) ((go_nI (its (walkN f i) i 1) (by omega) (due (walkN f i) i) (by omega) (walk (walkN f i) i) (by omega)).1 c57) ?_
            refine sF_at S0 hG h (by omega) dX3_passMinute_69 (fun H locs h => ?_)
            refine lv_aload_n hx hb dX3_passMinute_70 rfl (lv_at hl 3 rfl) ?_
            refine gF_RX3_wasDue S0 hG h dX3_passMinute_71 ?_
            refine lv_iload_n hx hb dX3_passMinute_74 rfl (lv_at hl 4 rfl) ?_
            refine lv_iload_n hx hb dX3_passMinute_75 rfl (lv_at hl 2 rfl) ?_
            refine sF_wasDue S0 hG h (by omega) dX3_passMinute_76 (fun H locs h => ?_)
            refine lv_iinc hx hb dX3_passMinute_77 hl (k := 4) rfl (inc_1 _) (by decide) rfl (fun ls hl => ?_)
            refine lv_goto (tgt := 6) hx hb dX3_passMinute_80 (by decide) ?_
            exact ih6 (i + 1) _ _ _ (by omega) (by omega) h (lv_sub hl [4, 0] rfl)
          ·
            refine lv_iload hx hb dX3_passMinute_60 (lv_at hl 0 rfl) ?_
            refine lv_goto (tgt := 68) hx hb dX3_passMinute_62 (by decide) ?_
            refine lv_iadd hx hb dX3_passMinute_68 ?_
            refine tN (t := newAt (walkN f i) i) ((go_nI (its (walkN f i) i 1) (by omega) (due (walkN f i) i) (by omega) (walk (walkN f i) i) (by omega)).2 c57) ?_
            refine sF_at S0 hG h (by omega) dX3_passMinute_69 (fun H locs h => ?_)
            refine lv_aload_n hx hb dX3_passMinute_70 rfl (lv_at hl 3 rfl) ?_
            refine gF_RX3_wasDue S0 hG h dX3_passMinute_71 ?_
            refine lv_iload_n hx hb dX3_passMinute_74 rfl (lv_at hl 4 rfl) ?_
            refine lv_iload_n hx hb dX3_passMinute_75 rfl (lv_at hl 2 rfl) ?_
            refine sF_wasDue S0 hG h (by omega) dX3_passMinute_76 (fun H locs h => ?_)
            refine lv_iinc hx hb dX3_passMinute_77 hl (k := 4) rfl (inc_1 _) (by decide) rfl (fun ls hl => ?_)
            refine lv_goto (tgt := 6) hx hb dX3_passMinute_80 (by decide) ?_
            exact ih6 (i + 1) _ _ _ (by omega) (by omega) h (lv_sub hl [4, 0] rfl)
        ·
          rw [k31]
          refine lv_aload_n hx hb dX3_passMinute_34 rfl (lv_at hl 2 rfl) ?_
          refine lv_iload_n hx hb dX3_passMinute_35 rfl (lv_at hl 3 rfl) ?_
          refine lv_iload_n hx hb dX3_passMinute_36 rfl (lv_at hl 1 rfl) ?_
          refine cO_i0 S0 hG hA h hl.1 kw_RX3_94_RX1 (rin16 _ (List.mem_of_getElem? (i := 0) rfl)) kdG_walks (c_X1_walks (q0 := 14) (ci := 1) rfl rfl (by omega)) ⟨rfl, rfl, by decide, by decide, Nat.le_refl _, Nat.le_refl _⟩ rfl 1 14 rfl rfl rfl (Nat.le_of_ble_eq_true rfl) dX3_passMinute_37 (fun _ => rfl) (fun r u H locs hq h => ?_)
          obtain rfl := hq
          refine tN (t := walk (walkN f i) i) (nI_cong (by simp [walk, k31])) ?_
          refine lv_iload_n hx hb dX3_passMinute_40 rfl (lv_at hl 0 rfl) ?_
          refine va_mabs hx hb (S0.2.2.1.trans hl.1.symm) S0.2.2.2.1 (S0.2.2.2.2 _ (rin21 _ (List.mem_of_getElem? (i := 1) rfl))) (S0.2.2.2.2 _ (rin21 _ (List.mem_of_getElem? (i := 2) rfl))) (S0.2.2.2.2 _ (rin11 _ (List.mem_of_getElem? (i := 4) rfl))) (S0.2.2.2.2 _ (rin21 _ (List.mem_of_getElem? (i := 3) rfl))) (by decide) (Nat.le_of_ble_eq_true rfl) (Nat.le_refl _) (Nat.le_refl _) dX3_passMinute_41 ?_
          refine va_mmin hx hb (S0.2.2.1.trans hl.1.symm) S0.2.2.2.1 (S0.2.2.2.2 _ (rin21 _ (List.mem_of_getElem? (i := 4) rfl))) (S0.2.2.2.2 _ (rin21 _ (List.mem_of_getElem? (i := 5) rfl))) (S0.2.2.2.2 _ (rin11 _ (List.mem_of_getElem? (i := 4) rfl))) (S0.2.2.2.2 _ (rin21 _ (List.mem_of_getElem? (i := 6) rfl))) (by decide) (Nat.le_of_ble_eq_true rfl) (Nat.le_refl _) (Nat.le_refl _) dX3_passMinute_44 ?_
          refine lv_istore hx hb dX3_passMinute_47 hl (by decide) rfl (fun ls hl => ?_)
          refine lv_aload_n hx hb dX3_passMinute_49 rfl (lv_at hl 3 rfl) ?_
          refine gF_RX3_at S0 hG h dX3_passMinute_50 ?_
          refine lv_iload_n hx hb dX3_passMinute_53 rfl (lv_at hl 4 rfl) ?_
          refine lv_dup2_11 hx hb dX3_passMinute_54 rfl rfl ?_
          refine rF_at S0 hG h (by omega) dX3_passMinute_55 ?_
          refine lv_iload_n hx hb dX3_passMinute_56 rfl (lv_at hl 1 rfl) ?_
          refine lv_if_le hx hb (tgt := 65) dX3_passMinute_57 (by decide) (fun c57 => ?_) (fun c57 => ?_)
          ·
            refine lv_iload hx hb dX3_passMinute_65 (lv_at hl 0 rfl) ?_
            refine lv_ineg hx hb dX3_passMinute_67 ?_
            refine lv_iadd hx hb dX3_passMinute_68 ?_
            refine tN (t := newAt (walkN f i) i) ((go_nI (its (walkN f i) i 1) (by omega) (due (walkN f i) i) (by omega) (walk (walkN f i) i) (by omega)).1 c57) ?_
            refine sF_at S0 hG h (by omega) dX3_passMinute_69 (fun H locs h => ?_)
            refine lv_aload_n hx hb dX3_passMinute_70 rfl (lv_at hl 3 rfl) ?_
            refine gF_RX3_wasDue S0 hG h dX3_passMinute_71 ?_
            refine lv_iload_n hx hb dX3_passMinute_74 rfl (lv_at hl 4 rfl) ?_
            refine lv_iload_n hx hb dX3_passMinute_75 rfl (lv_at hl 2 rfl) ?_
            refine sF_wasDue S0 hG h (by omega) dX3_passMinute_76 (fun H locs h => ?_)
            refine lv_iinc hx hb dX3_passMinute_77 hl (k := 4) rfl (inc_1 _) (by decide) rfl (fun ls hl => ?_)
            refine lv_goto (tgt := 6) hx hb dX3_passMinute_80 (by decide) ?_
            exact ih6 (i + 1) _ _ _ (by omega) (by omega) h (lv_sub hl [4, 0] rfl)
          ·
            refine lv_iload hx hb dX3_passMinute_60 (lv_at hl 0 rfl) ?_
            refine lv_goto (tgt := 68) hx hb dX3_passMinute_62 (by decide) ?_
            refine lv_iadd hx hb dX3_passMinute_68 ?_
            refine tN (t := newAt (walkN f i) i) ((go_nI (its (walkN f i) i 1) (by omega) (due (walkN f i) i) (by omega) (walk (walkN f i) i) (by omega)).2 c57) ?_
            refine sF_at S0 hG h (by omega) dX3_passMinute_69 (fun H locs h => ?_)
            refine lv_aload_n hx hb dX3_passMinute_70 rfl (lv_at hl 3 rfl) ?_
            refine gF_RX3_wasDue S0 hG h dX3_passMinute_71 ?_
            refine lv_iload_n hx hb dX3_passMinute_74 rfl (lv_at hl 4 rfl) ?_
            refine lv_iload_n hx hb dX3_passMinute_75 rfl (lv_at hl 2 rfl) ?_
            refine sF_wasDue S0 hG h (by omega) dX3_passMinute_76 (fun H locs h => ?_)
            refine lv_iinc hx hb dX3_passMinute_77 hl (k := 4) rfl (inc_1 _) (by decide) rfl (fun ls hl => ?_)
            refine lv_goto (tgt := 6) hx hb dX3_passMinute_80 (by decide) ?_
            exact ih6 (i + 1) _ _ _ (by omega) (by omega) h (lv_sub hl [4, 0] rfl)
        ·
          rw [k31]
          refine lv_aload_n hx hb dX3_passMinute_34 rfl (lv_at hl 2 rfl) ?_
          refine lv_iload_n hx hb dX3_passMinute_35 rfl (lv_at hl 3 rfl) ?_
          refine lv_iload_n hx hb dX3_passMinute_36 rfl (lv_at hl 1 rfl) ?_
          refine cO_i0 S0 hG hA h hl.1 kw_RX3_94_RX6 (rin16 _ (List.mem_of_getElem? (i := 0) rfl)) kdG_walks (c_X2_walks (q0 := 15) (ci := 6) rfl rfl (by omega) hI9 rfl) ⟨rfl, rfl, by decide, by decide, Nat.le_refl _, Nat.le_refl _⟩ rfl 6 15 rfl rfl rfl (Nat.le_of_ble_eq_true rfl) dX3_passMinute_37 (fun _ => rfl) (fun r u H locs hq h => ?_)
          obtain rfl := hq
          refine tN (t := walk (walkN f i) i) (nI_cong (by simp [walk, k31])) ?_
          refine lv_iload_n hx hb dX3_passMinute_40 rfl (lv_at hl 0 rfl) ?_
          refine va_mabs hx hb (S0.2.2.1.trans hl.1.symm) S0.2.2.2.1 (S0.2.2.2.2 _ (rin21 _ (List.mem_of_getElem? (i := 1) rfl))) (S0.2.2.2.2 _ (rin21 _ (List.mem_of_getElem? (i := 2) rfl))) (S0.2.2.2.2 _ (rin11 _ (List.mem_of_getElem? (i := 4) rfl))) (S0.2.2.2.2 _ (rin21 _ (List.mem_of_getElem? (i := 3) rfl))) (by decide) (Nat.le_of_ble_eq_true rfl) (Nat.le_refl _) (Nat.le_refl _) dX3_passMinute_41 ?_
          refine va_mmin hx hb (S0.2.2.1.trans hl.1.symm) S0.2.2.2.1 (S0.2.2.2.2 _ (rin21 _ (List.mem_of_getElem? (i := 4) rfl))) (S0.2.2.2.2 _ (rin21 _ (List.mem_of_getElem? (i := 5) rfl))) (S0.2.2.2.2 _ (rin11 _ (List.mem_of_getElem? (i := 4) rfl))) (S0.2.2.2.2 _ (rin21 _ (List.mem_of_getElem? (i := 6) rfl))) (by decide) (Nat.le_of_ble_eq_true rfl) (Nat.le_refl _) (Nat.le_refl _) dX3_passMinute_44 ?_
          refine lv_istore hx hb dX3_passMinute_47 hl (by decide) rfl (fun ls hl => ?_)
          refine lv_aload_n hx hb dX3_passMinute_49 rfl (lv_at hl 3 rfl) ?_
          refine gF_RX3_at S0 hG h dX3_passMinute_50 ?_
          refine lv_iload_n hx hb dX3_passMinute_53 rfl (lv_at hl 4 rfl) ?_
          refine lv_dup2_11 hx hb dX3_passMinute_54 rfl rfl ?_
          refine rF_at S0 hG h (by omega) dX3_passMinute_55 ?_
          refine lv_iload_n hx hb dX3_passMinute_56 rfl (lv_at hl 1 rfl) ?_
          refine lv_if_le hx hb (tgt := 65) dX3_passMinute_57 (by decide) (fun c57 => ?_) (fun c57 => ?_)
          ·
            refine lv_iload hx hb dX3_passMinute_65 (lv_at hl 0 rfl) ?_
            refine lv_ineg hx hb dX3_passMinute_67 ?_
            refine lv_iadd hx hb dX3_passMinute_68 ?_
            refine tN (t := newAt (walkN f i) i) ((go_nI (its (walkN f i) i 1) (by omega) (due (walkN f i) i) (by omega) (walk (walkN f i) i) (by omega)).1 c57) ?_
            refine sF_at S0 hG h (by omega) dX3_passMinute_69 (fun H locs h => ?_)
            refine lv_aload_n hx hb dX3_passMinute_70 rfl (lv_at hl 3 rfl) ?_
            refine gF_RX3_wasDue S0 hG h dX3_passMinute_71 ?_
            refine lv_iload_n hx hb dX3_passMinute_74 rfl (lv_at hl 4 rfl) ?_
            refine lv_iload_n hx hb dX3_passMinute_75 rfl (lv_at hl 2 rfl) ?_
            refine sF_wasDue S0 hG h (by omega) dX3_passMinute_76 (fun H locs h => ?_)
            refine lv_iinc hx hb dX3_passMinute_77 hl (k := 4) rfl (inc_1 _) (by decide) rfl (fun ls hl => ?_)
            refine lv_goto (tgt := 6) hx hb dX3_passMinute_80 (by decide) ?_
            exact ih6 (i + 1) _ _ _ (by omega) (by omega) h (lv_sub hl [4, 0] rfl)
          ·
            refine lv_iload hx hb dX3_passMinute_60 (lv_at hl 0 rfl) ?_
            refine lv_goto (tgt := 68) hx hb dX3_passMinute_62 (by decide) ?_
            refine lv_iadd hx hb dX3_passMinute_68 ?_
            refine tN (t := newAt (walkN f i) i) ((go_nI (its (walkN f i) i 1) (by omega) (due (walkN f i) i) (by omega) (walk (walkN f i) i) (by omega)).2 c57) ?_
            refine sF_at S0 hG h (by omega) dX3_passMinute_69 (fun H locs h => ?_)
            refine lv_aload_n hx hb dX3_passMinute_70 rfl (lv_at hl 3 rfl) ?_
            refine gF_RX3_wasDue S0 hG h dX3_passMinute_71 ?_
            refine lv_iload_n hx hb dX3_passMinute_74 rfl (lv_at hl 4 rfl) ?_
            refine lv_iload_n hx hb dX3_passMinute_75 rfl (lv_at hl 2 rfl) ?_
            refine sF_wasDue S0 hG h (by omega) dX3_passMinute_76 (fun H locs h => ?_)
            refine lv_iinc hx hb dX3_passMinute_77 hl (k := 4) rfl (inc_1 _) (by decide) rfl (fun ls hl => ?_)
            refine lv_goto (tgt := 6) hx hb dX3_passMinute_80 (by decide) ?_
            exact ih6 (i + 1) _ _ _ (by omega) (by omega) h (lv_sub hl [4, 0] rfl)
  refine lv_aload_n hx hb dX3_passMinute_0 rfl (lv_at hl 0 rfl) ?_
  refine cV_v0 S0 hG hA h hl.1 kw_RX3_87 kdV_X3_look (c_X3_look hI) ⟨rfl, rfl, by decide, by decide, Nat.le_refl _, Nat.le_refl _⟩ rfl 3 0 rfl rfl rfl (Nat.le_of_ble_eq_true rfl) dX3_passMinute_1 (fun _ => rfl) (fun u H locs hq h => ?_)
  refine lv_iconst (v := nI 0) hx hb dX3_passMinute_4 (by decide) ?_
  refine lv_istore_n hx hb dX3_passMinute_5 rfl hl (by decide) rfl (fun ls hl => ?_)
  exact lp6 _ 0 _ _ _ (Nat.zero_le _) (Nat.lt_succ_self _) h (lv_sub hl [1, 0] rfl)
