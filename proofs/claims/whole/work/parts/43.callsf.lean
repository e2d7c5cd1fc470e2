variable {G : GT} {l : Launch} {o : Nat → Nat} {f st tb : Row} {tn : Nat} {nu : Nat → Int64} {bi si : Row} {kp : Nat} {g : Row} {D : DT}
set_option maxHeartbeats 4000000 in
set_option maxRecDepth 100000 in
theorem c_X10_tear (hk : kp ≤ 1) : Ki G l yX10_tear cX10_tear 2 (some .int) (RM 1 0) [.ref (o 0)] (wC G o f st tb tn nu bi si kp g D) (fun u : Unit => wC G o f st tb tn nu bi si 0 g D) (fun r _ => r = nI kp) := by
  refine Ki.of (by decide) (Nat.le_of_ble_eq_true rfl) ?_
  intro p e s m args below meth c A Q ls hx hb S0 hG hA h hret hl
  have S0 : CF p m c cX10_tear 2 s args RX10 := S0
  have hl : lv_has ls 2 [(0, .ref (o 0))] := hl
  refine lv_aload_n hx hb dX10_tear_0 rfl (lv_at hl 0 rfl) ?_
  refine gC_isKept S0 hG h dX10_tear_1 ?_
  refine n_zeq hx hb (by omega) (tgt := 11) dX10_tear_4 (by decide) (fun c4 => ?_) (fun c4 => ?_)
  ·
    refine lv_iconst (v := nI 0) hx hb dX10_tear_11 (by decide) ?_
    refine lv_istore_n hx hb dX10_tear_12 rfl hl (by decide) rfl (fun ls hl => ?_)
    refine lv_aload_n hx hb dX10_tear_13 rfl (lv_at hl 1 rfl) ?_
    refine lv_iconst (v := nI 0) hx hb dX10_tear_14 (by decide) ?_
    refine pC_isKept0 S0 hG h dX10_tear_15 (fun H locs h => ?_)
    refine lv_iload_n hx hb dX10_tear_18 rfl (lv_at hl 0 rfl) ?_
    exact hret _ () _ _ _ _ (nI_cong (by omega)) h dX10_tear_19
  ·
    refine lv_iconst (v := nI 1) hx hb dX10_tear_7 (by decide) ?_
    refine lv_goto (tgt := 12) hx hb dX10_tear_8 (by decide) ?_
    refine lv_istore_n hx hb dX10_tear_12 rfl hl (by decide) rfl (fun ls hl => ?_)
    refine lv_aload_n hx hb dX10_tear_13 rfl (lv_at hl 1 rfl) ?_
    refine lv_iconst (v := nI 0) hx hb dX10_tear_14 (by decide) ?_
    refine pC_isKept0 S0 hG h dX10_tear_15 (fun H locs h => ?_)
    refine lv_iload_n hx hb dX10_tear_18 rfl (lv_at hl 0 rfl) ?_
    exact hret _ () _ _ _ _ (nI_cong (by omega)) h dX10_tear_19
