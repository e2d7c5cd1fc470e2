variable {G : GT} {l : Launch} {o : Nat → Nat} {f st tb : Row} {tn : Nat} {nu : Nat → Int64} {bi si : Row} {kp : Nat} {g : Row} {D : DT}
set_option maxHeartbeats 4000000 in
set_option maxRecDepth 100000 in
theorem c_X10_wipe  : Ki G l yX10_wipe cX10_wipe 2 (some .int) (RM 1 0) [.ref (o 0)] (wC G o f st tb tn nu bi si kp g D) (fun u : Unit => wC G o f st tb 0 nu bi si kp g D) (fun r _ => r = nI tn) := by
  refine Ki.of (by decide) (Nat.le_of_ble_eq_true rfl) ?_
  intro p e s m args below meth c A Q ls hx hb S0 hG hA h hret hl
  have S0 : CF p m c cX10_wipe 2 s args RX10 := S0
  have hl : lv_has ls 2 [(0, .ref (o 0))] := hl
  refine lv_aload_n hx hb dX10_wipe_0 rfl (lv_at hl 0 rfl) ?_
  refine gC_tape S0 hG h dX10_wipe_1 ?_
  refine gC_length S0 hG h dX10_wipe_4 ?_
  refine lv_istore_n hx hb dX10_wipe_7 rfl hl (by decide) rfl (fun ls hl => ?_)
  refine lv_aload_n hx hb dX10_wipe_8 rfl (lv_at hl 1 rfl) ?_
  refine gC_tape S0 hG h dX10_wipe_9 ?_
  refine lv_iconst (v := nI 0) hx hb dX10_wipe_12 (by decide) ?_
  refine pC_length S0 hG h dX10_wipe_13 (fun H locs h => ?_)
  refine lv_iload_n hx hb dX10_wipe_16 rfl (lv_at hl 0 rfl) ?_
  exact hret _ () _ _ _ _ rfl h dX10_wipe_17
