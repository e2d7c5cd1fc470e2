variable {G : GT} {l : Launch} {o : Nat → Nat} {f st tb : Row} {tn : Nat} {nu : Nat → Int64} {bi si : Row} {kp : Nat} {g : Row} {D : DT}
set_option maxHeartbeats 4000000 in
set_option maxRecDepth 100000 in
theorem c_X10_isNobody {x : Int32} (hI : f 1 ≤ 8) : Ki G l yX10_isNobody cX10_isNobody 2 (some .boolean) (RM 1 0) [.ref (o 0), .int x] (wC G o f st tb tn nu bi si kp g D) (fun u : Unit => wC G o f st tb tn nu bi si kp g D) (fun r _ => (r = nI 1 ∧ ¬ isP f x) ∨ (r = nI 0 ∧ isP f x)) := by
  refine Ki.ofz (by decide) (Nat.le_of_ble_eq_true rfl) ?_
  intro p e s m args below meth c A Q ls hx hb S0 hG hA h hret hl
  have S0 : CF p m c cX10_isNobody 2 s args RX10 := S0
  have hl : lv_has ls 2 [(0, .ref (o 0)), (1, .int x)] := hl
  refine lv_iload_n hx hb dX10_isNobody_0 rfl (lv_at hl 1 rfl) ?_
  refine lv_if_lt hx hb (tgt := 15) dX10_isNobody_1 (by decide) (fun c1 => ?_) (fun c1 => ?_)
  ·
    have c1 := (clz x).mp c1
    refine lv_iconst (v := nI 1) hx hb dX10_isNobody_15 (by decide) ?_
    refine lv_goto (tgt := 20) hx hb dX10_isNobody_16 (by decide) ?_
    exact hret _ () _ _ _ _ (by decide) (Or.inl ⟨rfl, fun q9 => by have := q9.1; have := q9.2; omega⟩) h dX10_isNobody_20
  ·
    have c1 : ¬ x.toInt < 0 := fun q9 => c1 ((clz x).mpr q9)
    refine lv_iload_n hx hb dX10_isNobody_4 rfl (lv_at hl 1 rfl) ?_
    refine lv_aload_n hx hb dX10_isNobody_5 rfl (lv_at hl 0 rfl) ?_
    refine gC_present S0 hG h dX10_isNobody_6 ?_
    refine kPg_people S0 hG h dX10_isNobody_9 ?_
    refine lv_icmp_lt hx hb (tgt := 19) dX10_isNobody_12 (by decide) (fun c12 => ?_) (fun c12 => ?_)
    ·
      have c12 := Int32.lt_iff_toInt_lt.mp c12
      rw [nI_toInt (by omega)] at c12
      refine lv_iconst (v := nI 0) hx hb dX10_isNobody_19 (by decide) ?_
      exact hret _ () _ _ _ _ (by decide) (Or.inr ⟨rfl, by omega, by omega⟩) h dX10_isNobody_20
    ·
      have c12 : ¬ x.toInt < (nI (f 1)).toInt := fun q9 => c12 (Int32.lt_iff_toInt_lt.mpr q9)
      rw [nI_toInt (by omega)] at c12
      refine lv_iconst (v := nI 1) hx hb dX10_isNobody_15 (by decide) ?_
      refine lv_goto (tgt := 20) hx hb dX10_isNobody_16 (by decide) ?_
      exact hret _ () _ _ _ _ (by decide) (Or.inl ⟨rfl, fun q9 => by have := q9.1; have := q9.2; omega⟩) h dX10_isNobody_20
