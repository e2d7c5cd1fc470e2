variable {G : GT} {l : Launch} {t a : Nat → Nat} {tb : Nat → Nat} {tn tk ts tx tv : Nat} {f : Nat → Nat} {q sp : Nat} {rg : Int32} {wd : Nat → Nat} {it : Nat}
theorem kw_RX9_34 : GoodIn wsL_law (wsV RX9 34 RX9 yX9_takeItem (WS yX9_takeItem cX9_takeItem 3 (some .boolean))) := gV (rin29 _ (List.mem_of_getElem? (i := 13) rfl)) (rin29 _ (List.mem_of_getElem? (i := 14) rfl)) (rin29 _ (List.mem_of_getElem? (i := 15) rfl)) (rin1 _ (List.mem_of_getElem? (i := 15) rfl)) (rin29 _ (List.mem_of_getElem? (i := 16) rfl))
theorem kdV_X9_takeItem : yX9_takeItem.cls = RX9 ∧ yX9_takeItem.cls ≠ "java/lang/invoke/MethodHandle" ∧ yX9_takeItem.cls ≠ "java/lang/invoke/VarHandle" ∧ (parseMethodDescriptor yX9_takeItem.desc).map (fun d => d.parameters.length) = some 1 := ⟨rfl, by decide +kernel, by decide +kernel, by decide +kernel⟩
set_option maxHeartbeats 4000000 in
set_option maxRecDepth 100000 in
theorem c_X9_perform (hT : ∀ i, tb i < 256) (htn : tn ≤ 120) (hI : Inv f) : Ki G l yX9_perform cX9_perform 3 (some .int) (RM 9 174) [.ref (t 0), .ref (a 0)] (wT G t a tb tn tk ts tx tv f q sp rg wd it) (fun u : Row × Nat => wZ G t a tb tn u.2 u.1 q sp rg wd it) (fun r u => (∃ i, 1 ≤ i ∧ i ≤ 120 ∧ r = nI i ∧ P_interval f tb tn r u.1 ∧ Inv u.1 ∧ u.1 0 = f 0) ∨ (∃ i, i ≤ 120 ∧ r = -1 - nI i ∧ P_interval f tb tn r f)) := by
  refine Ki.of (by decide) (Nat.le_of_ble_eq_true rfl) ?_
  intro p e s m args below meth c A Q ls hx hb S0 hG hA h hret hl
  have S0 : CF p m c cX9_perform 3 s args RX9 := S0
  have hl : lv_has ls 3 [(0, .ref (t 0)), (1, .ref (a 0))] := hl
  have lp11 : ∀ (kf : Nat) (i z : Nat) (f1 : Row) (H : Heap) (locs : List Loc) (ls : Array Slot) (hi1 : 1 ≤ i) (hi2 : i ≤ 121) (hz : z ≤ tn) (hiz : i ≤ z + 1) (hI1 : Inv f1) (hf0 : f1 0 = f 0) (hC : Cs tb tn f f1 z i), 121 - i < kf → WX G A s H locs (wZ G t a tb tn z f1 q sp rg wd it) → lv_has ls 3 [(0, .ref (t 0)), (1, .ref (a 0)), (2, .int (nI i))] → W p l e (RM 9 174) s m args below meth c H locs 0 0 Q (F0 m 11 ls []) := by
    intro kf
    induction kf with
    | zero => intro i z f1 H locs ls hi1 hi2 hz hiz hI1 hf0 hC hm; exact absurd hm (Nat.not_lt_zero _)
    | succ kf ih11 =>
      intro i z f1 H locs ls hi1 hi2 hz hiz hI1 hf0 hC hm h hl
      refine lv_iload_n hx hb dX9_perform_11 rfl (lv_at hl 2 rfl) ?_
      refine lv_bipush (v := nI 120) hx hb dX9_perform_12 (by decide) ?_
      refine n_cgt hx hb (by omega) (by omega) (tgt := 66) dX9_perform_14 (by decide) (fun c14 => ?_) (fun c14 => ?_)
      ·
        refine lv_iconst (v := -1) hx hb dX9_perform_66 (by decide) ?_
        refine lv_aload_n hx hb dX9_perform_67 rfl (lv_at hl 0 rfl) ?_
        refine gT_start S0 hG h dX9_perform_68 ?_
        refine lv_isub hx hb dX9_perform_71 ?_
        exact hret _ (f1, z) _ _ _ _ (Or.inr ⟨z, by omega, rfl, Cs_bad (f2 := f1) hC (Item_end (by omega))⟩) h dX9_perform_72
      ·
        refine lv_aload_n hx hb dX9_perform_17 rfl (lv_at hl 0 rfl) ?_
        refine lv_aload_n hx hb dX9_perform_18 rfl (lv_at hl 1 rfl) ?_
        refine cV_i0 S0 hG hA h hl.1 kw_RX9_34 kdV_X9_takeItem (c_X9_takeItem hI1.2.1 hT htn hz) ⟨rfl, rfl, by decide, by decide, Nat.le_refl _, Nat.le_refl _⟩ rfl 9 0 rfl rfl rfl (Nat.le_of_ble_eq_true rfl) dX9_perform_19 (fun _ => rfl) (fun r u H locs hq h => ?_)
        obtain ⟨f2, z2⟩ := u
        obtain ⟨hq, hs9⟩ := hq
        have hs9 : z2 ≤ tn := hs9
        have h : WX G A s H locs (wZ G t a tb tn z2 f2 q sp rg wd it) := h
        rcases hq with ⟨rfl, b19⟩ | ⟨rfl, b19⟩
        ·
          refine n_zne hx hb (by decide) (tgt := 32) dX9_perform_22 (by decide) (fun _ => ?_) (fun q => absurd q (by decide))
          refine lv_aload_n hx hb dX9_perform_32 rfl (lv_at hl 0 rfl) ?_
          refine gT_token S0 hG h dX9_perform_33 ?_
          refine n_zne hx hb (by have := tkK_le tb tn z2; omega) (tgt := 41) dX9_perform_36 (by decide) (fun c36 => ?_) (fun c36 => ?_)
          ·
            refine lv_aload_n hx hb dX9_perform_41 rfl (lv_at hl 0 rfl) ?_
            refine gT_token S0 hG h dX9_perform_42 ?_
            refine lv_iconst (v := nI 3) hx hb dX9_perform_45 (by decide) ?_
            refine n_ceq hx hb (by have := tkK_le tb tn z2; omega) (by have := tkK_le tb tn z2; omega) (tgt := 56) dX9_perform_46 (by decide) (fun c46 => ?_) (fun c46 => ?_)
            ·
              have k3 := tkK_3.mp c46
              have g9 := Item_ge b19
              have n9 := nx_gt (tb := tb) k3.1
              have n8 := nx_le (tb := tb) hs9
              have i9 := Item_inv hI1 b19 trivial
              refine lv_aload_n hx hb dX9_perform_56 rfl (lv_at hl 0 rfl) ?_
              refine cV_v0 S0 hG hA h hl.1 kw_RX9_31 kdV_X9_advance (c_X9_advance hT htn (tkE_le hs9)) ⟨rfl, rfl, by decide, by decide, Nat.le_refl _, Nat.le_refl _⟩ rfl 9 0 rfl rfl rfl (Nat.le_of_ble_eq_true rfl) dX9_perform_57 (fun _ => rfl) (fun u H locs hq h => ?_)
              have h : WX G A s H locs (wZ G t a tb tn (nx tb tn z2) f2 q sp rg wd it) := h
              refine lv_iinc hx hb dX9_perform_60 hl (k := 2) rfl (inc_1 _) (by decide) rfl (fun ls hl => ?_)
              refine lv_goto (tgt := 11) hx hb dX9_perform_63 (by decide) ?_
              exact ih11 (i + 1) (nx tb tn z2) f2 _ _ _ (by omega) (by omega) n8 (by omega) i9.1 (i9.2.trans hf0) (Cs_s hC b19 k3.1 k3.2) (by omega) h (lv_sub hl [1, 2, 0] rfl)
            ·
              refine lv_iconst (v := -1) hx hb dX9_perform_49 (by decide) ?_
              refine lv_aload_n hx hb dX9_perform_50 rfl (lv_at hl 0 rfl) ?_
              refine gT_start S0 hG h dX9_perform_51 ?_
              refine lv_isub hx hb dX9_perform_54 ?_
              exact hret _ (f2, z2) _ _ _ _ (Or.inr ⟨z2, by omega, rfl, Cs_sign hC b19 (Nat.lt_of_not_le (fun z9 => by have := (tkK_0 (tb := tb)).mpr z9; omega)) (fun z9 => c46 (tkK_3.mpr ⟨Nat.lt_of_not_le (fun z9 => by have := (tkK_0 (tb := tb)).mpr z9; omega), z9⟩))⟩) h dX9_perform_55
          ·
            refine lv_iload_n hx hb dX9_perform_39 rfl (lv_at hl 2 rfl) ?_
            have i9 := Item_inv hI1 b19 trivial
            exact hret _ (f2, z2) _ _ _ _ (Or.inl ⟨i, hi1, by omega, rfl, Cs_end hC b19 (tkK_0.mp c36), i9.1, i9.2.trans hf0⟩) h dX9_perform_40
        ·
          refine n_zne hx hb (by decide) (tgt := 32) dX9_perform_22 (by decide) (fun q => absurd q (by decide)) (fun _ => ?_)
          refine lv_iconst (v := -1) hx hb dX9_perform_25 (by decide) ?_
          refine lv_aload_n hx hb dX9_perform_26 rfl (lv_at hl 0 rfl) ?_
          refine gT_start S0 hG h dX9_perform_27 ?_
          refine lv_isub hx hb dX9_perform_30 ?_
          exact hret _ (f2, z2) _ _ _ _ (Or.inr ⟨z2, by omega, rfl, Cs_bad hC b19⟩) h dX9_perform_31
  refine lv_aload_n hx hb dX9_perform_0 rfl (lv_at hl 0 rfl) ?_
  refine lv_iconst (v := nI 0) hx hb dX9_perform_1 (by decide) ?_
  refine pT_next S0 hG h dX9_perform_2 (fun H locs h => ?_)
  refine lv_aload_n hx hb dX9_perform_5 rfl (lv_at hl 0 rfl) ?_
  refine cV_v0 S0 hG hA h hl.1 kw_RX9_31 kdV_X9_advance (c_X9_advance hT htn (Nat.zero_le _)) ⟨rfl, rfl, by decide, by decide, Nat.le_refl _, Nat.le_refl _⟩ rfl 9 0 rfl rfl rfl (Nat.le_of_ble_eq_true rfl) dX9_perform_6 (fun _ => rfl) (fun u H locs hq h => ?_)
  have h : WX G A s H locs (wZ G t a tb tn (tkS tb tn 0) f q sp rg wd it) := h
  refine lv_iconst (v := nI 1) hx hb dX9_perform_9 (by decide) ?_
  refine lv_istore_n hx hb dX9_perform_10 rfl hl (by decide) rfl (fun ls hl => ?_)
  exact lp11 _ 1 (tkS tb tn 0) f _ _ _ (Nat.le_refl _) (by omega) (tkS_le (Nat.zero_le _)) (by omega) hI rfl Cs_0 (Nat.lt_succ_self _) h (lv_sub hl [1, 2, 0] rfl)
