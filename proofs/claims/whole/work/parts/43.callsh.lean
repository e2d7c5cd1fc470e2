variable {G : GT} {l : Launch} {o : Nat → Nat} {f st tb : Row} {tn : Nat} {nu : Nat → Int64} {bi si : Row} {kp : Nat} {g : Row} {D : DT}
set_option maxHeartbeats 4000000 in
set_option maxRecDepth 100000 in
theorem c_X10_status {x : Int32} : Ki G l yX10_status cX10_status 4 (some .int) (RM 2 22) [.ref (o 0), .int x] (wC G o f st tb tn nu bi si kp g D) (fun u : Row => wC G o f u tb tn nu bi si kp g D) (fun r u => P_status st x r u) := by
  refine Ki.of (by decide) (Nat.le_of_ble_eq_true rfl) ?_
  intro p e s m args below meth c A Q ls hx hb S0 hG hA h hret hl
  have S0 : CF p m c cX10_status 4 s args RX10 := S0
  have hl : lv_has ls 4 [(0, .ref (o 0)), (1, .int x)] := hl
  refine lv_iload_n hx hb dX10_status_0 rfl (lv_at hl 1 rfl) ?_
  refine lv_iconst (v := -1) hx hb dX10_status_1 (by decide) ?_
  refine lv_bipush (v := nI 6) hx hb dX10_status_2 (by decide) ?_
  refine cS_iE S0 hG hA h hl.1 kw_RX10_49 kdS_X10_isOutside (c_X10_isOutside) ⟨rfl, rfl, by decide, by decide, Nat.le_refl _, Nat.le_refl _⟩ rfl rfl (Nat.le_of_ble_eq_true rfl) dX10_status_4 (fun r u H locs hq h => ?_)
  have hq : (r = nI 1 ∧ ¬ inR x (-1) 6) ∨ (r = nI 0 ∧ inR x (-1) 6) := hq
  rcases hq with ⟨rfl, b4⟩ | ⟨rfl, b4⟩
  ·
    refine n_zeq hx hb (by decide) (tgt := 17) dX10_status_7 (by decide) (fun q => absurd q (by decide)) (fun _ => ?_)
    refine lv_aload_n hx hb dX10_status_10 rfl (lv_at hl 0 rfl) ?_
    refine lv_ldc (v := -1000000001) hx hb S0.2.2.2.1 (S0.2.2.2.2 _ (rin6 _ (List.mem_of_getElem? (i := 6) rfl))) dX10_status_11 ?_
    refine cV_i0 S0 hG hA h hl.1 kw_RX10_58 kdV_X10_tell (c_X10_tell (k := 0) (by decide) (by decide)) ⟨rfl, rfl, by decide, by decide, Nat.le_refl _, Nat.le_refl _⟩ rfl 10 0 rfl rfl rfl (Nat.le_of_ble_eq_true rfl) dX10_status_13 (fun _ => rfl) (fun r u H locs hq h => ?_)
    obtain rfl := hq
    exact hret _ (bump st 0) _ _ _ _ (Or.inr ⟨b4, rfl, rfl⟩) h dX10_status_16
  ·
    refine n_zeq hx hb (by decide) (tgt := 17) dX10_status_7 (by decide) (fun _ => ?_) (fun q => absurd q (by decide))
    refine lv_iload_n hx hb dX10_status_17 rfl (lv_at hl 1 rfl) ?_
    refine lv_if_lt hx hb (tgt := 28) dX10_status_18 (by decide) (fun c18 => ?_) (fun c18 => ?_)
    ·
      have c18 := (clz x).mp c18
      refine lv_iconst (v := nI 0) hx hb dX10_status_28 (by decide) ?_
      refine lv_istore_n hx hb dX10_status_29 rfl hl (by decide) rfl (fun ls hl => ?_)
      refine lv_iconst (v := nI 0) hx hb dX10_status_30 (by decide) ?_
      refine lv_istore_n hx hb dX10_status_31 rfl hl (by decide) rfl (fun ls hl => ?_)
      have lp32 : ∀ (kf : Nat) (i : Nat) (H : Heap) (locs : List Loc) (ls : Array Slot) (hi : i ≤ 7), 7 - i < kf → WX G A s H locs (wC G o f st tb tn nu bi si kp g D) → lv_has ls 4 [(0, .ref (o 0)), (1, .int x), (2, .int (nI (sumT st x.toInt i))), (3, .int (nI i))] → W p l e (RM 2 22) s m args below meth c H locs 0 0 Q (F0 m 32 ls []) := by
        intro kf
        induction kf with
        | zero => intro i H locs ls hi hm; exact absurd hm (Nat.not_lt_zero _)
        | succ kf ih32 =>
          intro i H locs ls hi hm h hl
          refine lv_iload_n hx hb dX10_status_32 rfl (lv_at hl 3 rfl) ?_
          refine lv_bipush (v := nI 7) hx hb dX10_status_33 (by decide) ?_
          refine n_cge hx hb (by omega) (by omega) (tgt := 53) dX10_status_35 (by decide) (fun c35 => ?_) (fun c35 => ?_)
          ·
            refine lv_iload_n hx hb dX10_status_53 rfl (lv_at hl 2 rfl) ?_
            obtain rfl : i = 7 := by omega
            exact hret _ st _ _ _ _ (Or.inl ⟨b4, rfl, rfl⟩) h dX10_status_54
          ·
            refine lv_iload_n hx hb dX10_status_38 rfl (lv_at hl 2 rfl) ?_
            refine lv_aload_n hx hb dX10_status_39 rfl (lv_at hl 0 rfl) ?_
            refine gC_told S0 hG h dX10_status_40 ?_
            refine lv_iload_n hx hb dX10_status_43 rfl (lv_at hl 3 rfl) ?_
            refine rC_told S0 hG h (by omega) dX10_status_44 ?_
            refine n_add hx hb dX10_status_45 ?_
            refine tN (t := sumT st x.toInt (i + 1)) (nI_cong (sumT_neg st c18 i)) ?_
            refine lv_istore_n hx hb dX10_status_46 rfl hl (by decide) rfl (fun ls hl => ?_)
            refine lv_iinc hx hb dX10_status_47 hl (k := 3) rfl (inc_1 _) (by decide) rfl (fun ls hl => ?_)
            refine lv_goto (tgt := 32) hx hb dX10_status_50 (by decide) ?_
            exact ih32 (i + 1) _ _ _ (by omega) (by omega) h (lv_sub hl [2, 3, 1, 0] rfl)
      exact lp32 _ 0 _ _ _ (by omega) (Nat.lt_succ_self _) h (lv_sub hl [2, 3, 1, 0] rfl)
    ·
      have c18 : ¬ x.toInt < 0 := fun z9 => c18 ((clz x).mpr z9)
      obtain ⟨j, rfl, j1, j2⟩ := inR_nat (hi := 6) ⟨by omega, b4.2⟩
      refine lv_aload_n hx hb dX10_status_21 rfl (lv_at hl 0 rfl) ?_
      refine gC_told S0 hG h dX10_status_22 ?_
      refine lv_iload_n hx hb dX10_status_25 rfl (lv_at hl 1 rfl) ?_
      refine rC_told S0 hG h (by omega) dX10_status_26 ?_
      exact hret _ st _ _ _ _ (Or.inl ⟨b4, by rw [nI_toInt j2, sumT_hi st 7 (by omega)], rfl⟩) h dX10_status_27
