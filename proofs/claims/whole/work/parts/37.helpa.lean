/-! the class: helpers -/
variable {G : GT} {l : Launch} {o : Nat → Nat} {f st tb : Row} {tn : Nat} {nu : Nat → Int64} {bi si : Row} {kp : Nat} {g : Row} {D : DT}
set_option maxHeartbeats 4000000 in
set_option maxRecDepth 100000 in
theorem c_X10_isOutside {x y z : Int32} : Ki G l yX10_isOutside cX10_isOutside 3 (some .boolean) (RM 1 0) [.int x, .int y, .int z] ([]) (fun u : Unit => []) (fun r _ => (r = nI 1 ∧ ¬ inR x y.toInt z.toInt) ∨ (r = nI 0 ∧ inR x y.toInt z.toInt)) := by
  refine Ki.ofz (by decide) (Nat.le_of_ble_eq_true rfl) ?_
  intro p e s m args below meth c A Q ls hx hb S0 hG hA h hret hl
  have S0 : CF p m c cX10_isOutside 3 s args RX10 := S0
  have hl : lv_has ls 3 [(0, .int x), (1, .int y), (2, .int z)] := hl
  refine lv_iload_n hx hb dX10_isOutside_0 rfl (lv_at hl 0 rfl) ?_
  refine lv_iload_n hx hb dX10_isOutside_1 rfl (lv_at hl 1 rfl) ?_
  refine lv_icmp_lt hx hb (tgt := 10) dX10_isOutside_2 (by decide) (fun c2 => ?_) (fun c2 => ?_)
  ·
    have c2 := Int32.lt_iff_toInt_lt.mp c2
    refine lv_iconst (v := nI 1) hx hb dX10_isOutside_10 (by decide) ?_
    refine lv_goto (tgt := 15) hx hb dX10_isOutside_11 (by decide) ?_
    exact hret _ () _ _ _ _ (by decide) (Or.inl ⟨rfl, fun q9 => by have := q9.1; have := q9.2; omega⟩) h dX10_isOutside_15
  ·
    have c2 : ¬ x.toInt < y.toInt := fun q9 => c2 (Int32.lt_iff_toInt_lt.mpr q9)
    refine lv_iload_n hx hb dX10_isOutside_5 rfl (lv_at hl 0 rfl) ?_
    refine lv_iload_n hx hb dX10_isOutside_6 rfl (lv_at hl 2 rfl) ?_
    refine lv_icmp_le hx hb (tgt := 14) dX10_isOutside_7 (by decide) (fun c7 => ?_) (fun c7 => ?_)
    ·
      have c7 := Int32.le_iff_toInt_le.mp c7
      refine lv_iconst (v := nI 0) hx hb dX10_isOutside_14 (by decide) ?_
      exact hret _ () _ _ _ _ (by decide) (Or.inr ⟨rfl, by omega, by omega⟩) h dX10_isOutside_15
    ·
      have c7 : ¬ x.toInt ≤ z.toInt := fun q9 => c7 (Int32.le_iff_toInt_le.mpr q9)
      refine lv_iconst (v := nI 1) hx hb dX10_isOutside_10 (by decide) ?_
      refine lv_goto (tgt := 15) hx hb dX10_isOutside_11 (by decide) ?_
      exact hret _ () _ _ _ _ (by decide) (Or.inl ⟨rfl, fun q9 => by have := q9.1; have := q9.2; omega⟩) h dX10_isOutside_15
