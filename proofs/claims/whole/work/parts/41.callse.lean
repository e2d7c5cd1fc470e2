variable {G : GT} {l : Launch} {o : Nat → Nat} {f st tb : Row} {tn : Nat} {nu : Nat → Int64} {bi si : Row} {kp : Nat} {g : Row} {D : DT}
theorem kw_RX10_169 : GoodIn wsL_law (wsV RX10 169 RX10 yX10_bestPlayed (WS yX10_bestPlayed cX10_bestPlayed 8 (some .int))) := gV (rin25 _ (List.mem_of_getElem? (i := 13) rfl)) (rin25 _ (List.mem_of_getElem? (i := 14) rfl)) (rin25 _ (List.mem_of_getElem? (i := 15) rfl)) (rin1 _ (List.mem_of_getElem? (i := 2) rfl)) (rin25 _ (List.mem_of_getElem? (i := 16) rfl))
theorem kdV_X10_bestPlayed : yX10_bestPlayed.cls = RX10 ∧ yX10_bestPlayed.cls ≠ "java/lang/invoke/MethodHandle" ∧ yX10_bestPlayed.cls ≠ "java/lang/invoke/VarHandle" ∧ (parseMethodDescriptor yX10_bestPlayed.desc).map (fun d => d.parameters.length) = some 4 := ⟨rfl, by decide +kernel, by decide +kernel, by decide +kernel⟩
set_option maxHeartbeats 4000000 in
set_option maxRecDepth 100000 in
theorem c_X10_begin {x y : Int32} (hI : Inv f) (h0 : f 0 ≤ 99999) : Ki G l yX10_begin cX10_begin 3 (some .int) (RM 8 162) [.ref (o 0), .int x, .int y] (wC G o f st tb tn nu bi si kp g D) (fun u : Row × DT => wC G o f u.1 tb tn nu bi si kp g u.2) (fun r u => P_begin f st x y r u.1) := by
  refine Ki.of (by decide) (Nat.le_of_ble_eq_true rfl) ?_
  intro p e s m args below meth c A Q ls hx hb S0 hG hA h hret hl
  have S0 : CF p m c cX10_begin 3 s args RX10 := S0
  have hl : lv_has ls 3 [(0, .ref (o 0)), (1, .int x), (2, .int y)] := hl
  have h8 := hI.2.1
  refine lv_aload_n hx hb dX10_begin_0 rfl (lv_at hl 0 rfl) ?_
  refine lv_iload_n hx hb dX10_begin_1 rfl (lv_at hl 1 rfl) ?_
  refine cV_i0 S0 hG hA h hl.1 kw_RX10_106 kdV_X10_isNobody (c_X10_isNobody hI.2.1) ⟨rfl, rfl, by decide, by decide, Nat.le_refl _, Nat.le_refl _⟩ rfl 10 0 rfl rfl rfl (Nat.le_of_ble_eq_true rfl) dX10_begin_2 (fun _ => rfl) (fun r u H locs hq h => ?_)
  rcases hq with ⟨rfl, b2⟩ | ⟨rfl, b2⟩
  ·
    refine n_zne hx hb (by decide) (tgt := 18) dX10_begin_5 (by decide) (fun _ => ?_) (fun q => absurd q (by decide))
    refine lv_aload_n hx hb dX10_begin_18 rfl (lv_at hl 0 rfl) ?_
    refine lv_ldc (v := -1000000001) hx hb S0.2.2.2.1 (S0.2.2.2.2 _ (rin6 _ (List.mem_of_getElem? (i := 6) rfl))) dX10_begin_19 ?_
    refine cV_i0 S0 hG hA h hl.1 kw_RX10_58 kdV_X10_tell (c_X10_tell (k := 0) (by decide) (by decide)) ⟨rfl, rfl, by decide, by decide, Nat.le_refl _, Nat.le_refl _⟩ rfl 10 0 rfl rfl rfl (Nat.le_of_ble_eq_true rfl) dX10_begin_21 (fun _ => rfl) (fun r u H locs hq h => ?_)
    obtain rfl := hq
    exact hret _ (bump st 0, D) _ _ _ _ (Or.inr ⟨fun q9 => b2 q9.1, rfl, rfl⟩) h dX10_begin_24
  ·
    refine n_zne hx hb (by decide) (tgt := 18) dX10_begin_5 (by decide) (fun q => absurd q (by decide)) (fun _ => ?_)
    refine lv_iload_n hx hb dX10_begin_8 rfl (lv_at hl 2 rfl) ?_
    refine lv_iconst (v := nI 1) hx hb dX10_begin_9 (by decide) ?_
    refine lv_bipush (v := nI 100) hx hb dX10_begin_10 (by decide) ?_
    refine cS_iE S0 hG hA h hl.1 kw_RX10_49 kdS_X10_isOutside (c_X10_isOutside) ⟨rfl, rfl, by decide, by decide, Nat.le_refl _, Nat.le_refl _⟩ rfl rfl (Nat.le_of_ble_eq_true rfl) dX10_begin_12 (fun r u H locs hq h => ?_)
    have hq : (r = nI 1 ∧ ¬ inR y 1 100) ∨ (r = nI 0 ∧ inR y 1 100) := hq
    rcases hq with ⟨rfl, b12⟩ | ⟨rfl, b12⟩
    ·
      refine n_zeq hx hb (by decide) (tgt := 25) dX10_begin_15 (by decide) (fun q => absurd q (by decide)) (fun _ => ?_)
      refine lv_aload_n hx hb dX10_begin_18 rfl (lv_at hl 0 rfl) ?_
      refine lv_ldc (v := -1000000001) hx hb S0.2.2.2.1 (S0.2.2.2.2 _ (rin6 _ (List.mem_of_getElem? (i := 6) rfl))) dX10_begin_19 ?_
      refine cV_i0 S0 hG hA h hl.1 kw_RX10_58 kdV_X10_tell (c_X10_tell (k := 0) (by decide) (by decide)) ⟨rfl, rfl, by decide, by decide, Nat.le_refl _, Nat.le_refl _⟩ rfl 10 0 rfl rfl rfl (Nat.le_of_ble_eq_true rfl) dX10_begin_21 (fun _ => rfl) (fun r u H locs hq h => ?_)
      obtain rfl := hq
      exact hret _ (bump st 0, D) _ _ _ _ (Or.inr ⟨fun q9 => b12 q9.2, rfl, rfl⟩) h dX10_begin_24
    ·
      obtain ⟨jx, rfl, jx1, jx2⟩ := inR_nat (hi := (f 1 : Int) - 1) b2
      obtain ⟨jy, rfl, jy1, jy2⟩ := inR_nat ⟨by have := b12.1; omega, b12.2⟩
      have jy0 := (inR_n (by omega)).mp b12
      refine n_zeq hx hb (by decide) (tgt := 25) dX10_begin_15 (by decide) (fun _ => ?_) (fun q => absurd q (by decide))
      refine lv_aload_n hx hb dX10_begin_25 rfl (lv_at hl 0 rfl) ?_
      refine lv_aload_n hx hb dX10_begin_26 rfl (lv_at hl 0 rfl) ?_
      refine gC_trial S0 hG h dX10_begin_27 ?_
      refine kTg_at S0 hG h dX10_begin_30 ?_
      refine lv_bipush (v := nI 12) hx hb dX10_begin_33 (by decide) ?_
      refine lv_iload_n hx hb dX10_begin_35 rfl (lv_at hl 1 rfl) ?_
      refine lv_iload_n hx hb dX10_begin_36 rfl (lv_at hl 2 rfl) ?_
      refine cV_i0 S0 hG hA h hl.1 kw_RX10_169 kdV_X10_bestPlayed (c_X10_bestPlayed1 hI h0 (by omega) (by omega)) ⟨rfl, rfl, by decide, by decide, Nat.le_refl _, Nat.le_refl _⟩ rfl 10 0 rfl rfl rfl (Nat.le_of_ble_eq_true rfl) dX10_begin_37 (fun _ => rfl) (fun r u H locs hq h => ?_)
      obtain rfl := hq
      exact hret _ (st, u) _ _ _ _ (Or.inl ⟨⟨b2, b12⟩, by rw [nt_nI jx2, nt_nI jy2], rfl⟩) h dX10_begin_40
