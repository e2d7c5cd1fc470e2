variable {G : GT} {l : Launch} {t a : Nat → Nat} {tb : Nat → Nat} {tn tk ts tx tv : Nat} {f : Nat → Nat} {q sp : Nat} {rg : Int32} {wd : Nat → Nat} {it : Nat}
theorem kw_RX9_44 : GoodIn wsL_law (wsV RX9 44 RX9 yX9_takeScore (WS yX9_takeScore cX9_takeScore 3 (some .boolean))) := gV (rin31 _ (List.mem_of_getElem? (i := 22) rfl)) (rin31 _ (List.mem_of_getElem? (i := 23) rfl)) (rin32 _ (List.mem_of_getElem? (i := 0) rfl)) (rin1 _ (List.mem_of_getElem? (i := 15) rfl)) (rin32 _ (List.mem_of_getElem? (i := 1) rfl))
theorem kw_RX9_49 : GoodIn wsL_law (wsV RX9 49 RX9 yX9_takeBell (WS yX9_takeBell cX9_takeBell 3 (some .boolean))) := gV (rin32 _ (List.mem_of_getElem? (i := 6) rfl)) (rin32 _ (List.mem_of_getElem? (i := 7) rfl)) (rin32 _ (List.mem_of_getElem? (i := 8) rfl)) (rin1 _ (List.mem_of_getElem? (i := 15) rfl)) (rin32 _ (List.mem_of_getElem? (i := 9) rfl))
theorem kw_RX9_58 : GoodIn wsL_law (wsV RX9 58 RX9 yX9_takePerson (WS yX9_takePerson cX9_takePerson 5 (some .boolean))) := gV (rin32 _ (List.mem_of_getElem? (i := 12) rfl)) (rin32 _ (List.mem_of_getElem? (i := 13) rfl)) (rin32 _ (List.mem_of_getElem? (i := 14) rfl)) (rin1 _ (List.mem_of_getElem? (i := 15) rfl)) (rin32 _ (List.mem_of_getElem? (i := 15) rfl))
theorem kdV_X9_takeScore : yX9_takeScore.cls = RX9 ∧ yX9_takeScore.cls ≠ "java/lang/invoke/MethodHandle" ∧ yX9_takeScore.cls ≠ "java/lang/invoke/VarHandle" ∧ (parseMethodDescriptor yX9_takeScore.desc).map (fun d => d.parameters.length) = some 1 := ⟨rfl, by decide +kernel, by decide +kernel, by decide +kernel⟩
theorem kdV_X9_takeBell : yX9_takeBell.cls = RX9 ∧ yX9_takeBell.cls ≠ "java/lang/invoke/MethodHandle" ∧ yX9_takeBell.cls ≠ "java/lang/invoke/VarHandle" ∧ (parseMethodDescriptor yX9_takeBell.desc).map (fun d => d.parameters.length) = some 1 := ⟨rfl, by decide +kernel, by decide +kernel, by decide +kernel⟩
theorem kdS_X0_nameOf : yX0_nameOf.cls ≠ "java/lang/invoke/MethodHandle" ∧ yX0_nameOf.cls ≠ "java/lang/invoke/VarHandle" ∧ (parseMethodDescriptor yX0_nameOf.desc).map (fun d => d.parameters.length) = some 1 := ⟨by decide +kernel, by decide +kernel, by decide +kernel⟩
theorem kdV_X9_takePerson : yX9_takePerson.cls = RX9 ∧ yX9_takePerson.cls ≠ "java/lang/invoke/MethodHandle" ∧ yX9_takePerson.cls ≠ "java/lang/invoke/VarHandle" ∧ (parseMethodDescriptor yX9_takePerson.desc).map (fun d => d.parameters.length) = some 2 := ⟨rfl, by decide +kernel, by decide +kernel, by decide +kernel⟩
set_option maxHeartbeats 4000000 in
set_option maxRecDepth 100000 in
theorem c_X9_takeItem (hI : f 1 ≤ 8) {z : Nat} (hT : ∀ i, tb i < 256) (htn : tn ≤ 120) (hz : z ≤ tn) : Ki G l yX9_takeItem cX9_takeItem 3 (some .boolean) (RM 8 152) [.ref (t 0), .ref (a 0)] (wZ G t a tb tn z f q sp rg wd it) (fun u : Row × Nat => wZ G t a tb tn u.2 u.1 q sp rg wd it) (fun r u => ((r = nI 1 ∧ Item tb tn f z True u.1 u.2) ∨ (r = nI 0 ∧ Item tb tn f z False u.1 u.2)) ∧ u.2 ≤ tn) := by
  refine Ki.ofz (by decide) (Nat.le_of_ble_eq_true rfl) ?_
  intro p e s m args below meth c A Q ls hx hb S0 hG hA h hret hl
  have S0 : CF p m c cX9_takeItem 3 s args RX9 := S0
  have hl : lv_has ls 3 [(0, .ref (t 0)), (1, .ref (a 0))] := hl
  refine lv_aload_n hx hb dX9_takeItem_0 rfl (lv_at hl 0 rfl) ?_
  refine va_ldcS hx hb S0.2.2.2.1 (sR_0 hG) dX9_takeItem_1 ?_
  refine cV_i0 S0 hG hA h hl.1 kw_RX9_40 kdV_X9_isWord (c_X9_isWord (i := 0) (by decide) hT htn hz) ⟨rfl, rfl, by decide, by decide, Nat.le_refl _, Nat.le_refl _⟩ rfl 9 0 rfl rfl rfl (Nat.le_of_ble_eq_true rfl) dX9_takeItem_3 (fun _ => rfl) (fun r u H locs hq h => ?_)
  rcases hq with ⟨rfl, b3⟩ | ⟨rfl, b3⟩
  ·
    have b3 : isW tb tn wScore z := b3
    refine n_zeq hx hb (by decide) (tgt := 15) dX9_takeItem_6 (by decide) (fun q => absurd q (by decide)) (fun _ => ?_)
    refine lv_aload_n hx hb dX9_takeItem_9 rfl (lv_at hl 0 rfl) ?_
    refine lv_aload_n hx hb dX9_takeItem_10 rfl (lv_at hl 1 rfl) ?_
    refine cV_i0 S0 hG hA h hl.1 kw_RX9_44 kdV_X9_takeScore (c_X9_takeScore hT htn hz) ⟨rfl, rfl, by decide, by decide, Nat.le_refl _, Nat.le_refl _⟩ rfl 9 0 rfl rfl rfl (Nat.le_of_ble_eq_true rfl) dX9_takeItem_11 (fun _ => rfl) (fun r u H locs hq h => ?_)
    obtain ⟨hq, hs9⟩ := hq
    rcases hq with ⟨rfl, b11⟩ | ⟨rfl, b11⟩
    ·
      exact hret _ u _ _ _ _ (by decide) ⟨Or.inl ⟨rfl, Or.inr (Or.inl ⟨b3, b11⟩)⟩, hs9⟩ h dX9_takeItem_14
    ·
      exact hret _ u _ _ _ _ (by decide) ⟨Or.inr ⟨rfl, Or.inr (Or.inl ⟨b3, b11⟩)⟩, hs9⟩ h dX9_takeItem_14
  ·
    have b3 : ¬ isW tb tn wScore z := b3
    refine n_zeq hx hb (by decide) (tgt := 15) dX9_takeItem_6 (by decide) (fun _ => ?_) (fun q => absurd q (by decide))
    refine lv_aload_n hx hb dX9_takeItem_15 rfl (lv_at hl 0 rfl) ?_
    refine va_ldcS hx hb S0.2.2.2.1 (sR_1 hG) dX9_takeItem_16 ?_
    refine cV_i0 S0 hG hA h hl.1 kw_RX9_40 kdV_X9_isWord (c_X9_isWord (i := 1) (by decide) hT htn hz) ⟨rfl, rfl, by decide, by decide, Nat.le_refl _, Nat.le_refl _⟩ rfl 9 0 rfl rfl rfl (Nat.le_of_ble_eq_true rfl) dX9_takeItem_18 (fun _ => rfl) (fun r u H locs hq h => ?_)
    rcases hq with ⟨rfl, b18⟩ | ⟨rfl, b18⟩
    ·
      have b18 : isW tb tn wBell z := b18
      refine n_zeq hx hb (by decide) (tgt := 30) dX9_takeItem_21 (by decide) (fun q => absurd q (by decide)) (fun _ => ?_)
      refine lv_aload_n hx hb dX9_takeItem_24 rfl (lv_at hl 0 rfl) ?_
      refine lv_aload_n hx hb dX9_takeItem_25 rfl (lv_at hl 1 rfl) ?_
      refine cV_i0 S0 hG hA h hl.1 kw_RX9_49 kdV_X9_takeBell (c_X9_takeBell hT htn hz) ⟨rfl, rfl, by decide, by decide, Nat.le_refl _, Nat.le_refl _⟩ rfl 9 0 rfl rfl rfl (Nat.le_of_ble_eq_true rfl) dX9_takeItem_26 (fun _ => rfl) (fun r u H locs hq h => ?_)
      obtain ⟨hq, hs9⟩ := hq
      rcases hq with ⟨rfl, b26⟩ | ⟨rfl, b26⟩
      ·
        exact hret _ u _ _ _ _ (by decide) ⟨Or.inl ⟨rfl, Or.inr (Or.inr (Or.inl ⟨b18, b26⟩))⟩, hs9⟩ h dX9_takeItem_29
      ·
        exact hret _ u _ _ _ _ (by decide) ⟨Or.inr ⟨rfl, Or.inr (Or.inr (Or.inl ⟨b18, b26⟩))⟩, hs9⟩ h dX9_takeItem_29
    ·
      have b18 : ¬ isW tb tn wBell z := b18
      refine n_zeq hx hb (by decide) (tgt := 30) dX9_takeItem_21 (by decide) (fun _ => ?_) (fun q => absurd q (by decide))
      refine lv_iconst (v := nI 0) hx hb dX9_takeItem_30 (by decide) ?_
      refine lv_istore_n hx hb dX9_takeItem_31 rfl hl (by decide) rfl (fun ls hl => ?_)
      have lp32 : ∀ (kf : Nat) (j : Nat) (H : Heap) (locs : List Loc) (ls : Array Slot) (hj : j ≤ 6) (hk9 : ∀ k, k < j → ¬ isW tb tn (kWord k) z), 6 - j < kf → WX G A s H locs (wZ G t a tb tn z f q sp rg wd it) → lv_has ls 3 [(0, .ref (t 0)), (1, .ref (a 0)), (2, .int (nI j))] → W p l e (RM 8 152) s m args below meth c H locs 0 0 Q (F0 m 32 ls []) := by
        intro kf
        induction kf with
        | zero => intro j H locs ls hj hk9 hm; exact absurd hm (Nat.not_lt_zero _)
        | succ kf ih32 =>
          intro j H locs ls hj hk9 hm h hl
          refine lv_iload_n hx hb dX9_takeItem_32 rfl (lv_at hl 2 rfl) ?_
          refine lv_bipush (v := nI 6) hx hb dX9_takeItem_33 (by decide) ?_
          refine n_cge hx hb (by omega) (by omega) (tgt := 62) dX9_takeItem_35 (by decide) (fun c35 => ?_) (fun c35 => ?_)
          ·
            refine lv_iconst (v := nI 0) hx hb dX9_takeItem_62 (by decide) ?_
            exact hret _ (f, z) _ _ _ _ (by decide) ⟨Or.inr ⟨rfl, Or.inr (Or.inr (Or.inr ⟨fun k hk => hk9 k (by omega), b3, b18, fun q => q, rfl⟩))⟩, hz⟩ h dX9_takeItem_63
          ·
            refine lv_aload_n hx hb dX9_takeItem_38 rfl (lv_at hl 0 rfl) ?_
            refine lv_iload_n hx hb dX9_takeItem_39 rfl (lv_at hl 2 rfl) ?_
            refine cSN_rE S0 hG hA h hl.1 (ws_ok (rin32 _ (List.mem_of_getElem? (i := 11) rfl))) (rin2 _ (List.mem_of_getElem? (i := 0) rfl)) (rin32 _ (List.mem_of_getElem? (i := 10) rfl)) (host := "ComposedInterval") (List.mem_of_getElem? (i := 59) rfl) kdS_X0_nameOf (c_X0_nameOf c35) ⟨rfl, rfl, by decide, by decide, Nat.le_refl _, Nat.le_refl _⟩ rfl rfl (Nat.le_of_ble_eq_true rfl) dX9_takeItem_40 (fun u H locs hq h => ?_)
            refine cV_i0 S0 hG hA h hl.1 kw_RX9_40 kdV_X9_isWord (c_X9_isWord (nmI_lt j) hT htn hz) ⟨rfl, rfl, by decide, by decide, Nat.le_refl _, Nat.le_refl _⟩ rfl 9 0 rfl rfl rfl (Nat.le_of_ble_eq_true rfl) dX9_takeItem_43 (fun _ => rfl) (fun r u H locs hq h => ?_)
            rcases hq with ⟨rfl, b43⟩ | ⟨rfl, b43⟩
            ·
              rw [nmI_w (by omega)] at b43
              refine n_zeq hx hb (by decide) (tgt := 56) dX9_takeItem_46 (by decide) (fun q => absurd q (by decide)) (fun _ => ?_)
              refine lv_aload_n hx hb dX9_takeItem_49 rfl (lv_at hl 0 rfl) ?_
              refine lv_aload_n hx hb dX9_takeItem_50 rfl (lv_at hl 1 rfl) ?_
              refine lv_iload_n hx hb dX9_takeItem_51 rfl (lv_at hl 2 rfl) ?_
              refine cV_i0 S0 hG hA h hl.1 kw_RX9_58 kdV_X9_takePerson (c_X9_takePerson hI hT htn hz) ⟨rfl, rfl, by decide, by decide, Nat.le_refl _, Nat.le_refl _⟩ rfl 9 0 rfl rfl rfl (Nat.le_of_ble_eq_true rfl) dX9_takeItem_52 (fun _ => rfl) (fun r u H locs hq h => ?_)
              obtain ⟨hq, hs9⟩ := hq
              rcases hq with ⟨rfl, b52⟩ | ⟨rfl, b52⟩
              ·
                exact hret _ u _ _ _ _ (by decide) ⟨Or.inl ⟨rfl, Or.inl ⟨j, by omega, b43, b52⟩⟩, hs9⟩ h dX9_takeItem_55
              ·
                exact hret _ u _ _ _ _ (by decide) ⟨Or.inr ⟨rfl, Or.inl ⟨j, by omega, b43, b52⟩⟩, hs9⟩ h dX9_takeItem_55
            ·
              rw [nmI_w (by omega)] at b43
              refine n_zeq hx hb (by decide) (tgt := 56) dX9_takeItem_46 (by decide) (fun _ => ?_) (fun q => absurd q (by decide))
              refine lv_iinc hx hb dX9_takeItem_56 hl (k := 2) rfl (inc_1 _) (by decide) rfl (fun ls hl => ?_)
              refine lv_goto (tgt := 32) hx hb dX9_takeItem_59 (by decide) ?_
              exact ih32 (j + 1) _ _ _ (by omega) (fun k hk => by by_cases e9 : k = j; rw [e9]; exact b43; exact hk9 k (by omega)) (by omega) h (lv_sub hl [1, 2, 0] rfl)
      exact lp32 _ 0 _ _ _ (by omega) (fun k hk => absurd hk (by omega)) (Nat.lt_succ_self _) h (lv_sub hl [1, 2, 0] rfl)
