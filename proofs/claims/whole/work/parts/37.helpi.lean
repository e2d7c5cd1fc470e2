variable {G : GT} {l : Launch} {o : Nat → Nat} {f st tb : Row} {tn : Nat} {nu : Nat → Int64} {bi si : Row} {kp : Nat} {g : Row} {D : DT}
set_option maxHeartbeats 4000000 in
set_option maxRecDepth 100000 in
theorem c_X10_exchange2 {x y : Nat} (hx1 : x < 8) : Ki G l yX10_exchange cX10_exchange 4 (some .int) (RM 1 0) [.ref (o 6), .int (nI x), .int (nI y)] (wC G o f st tb tn nu bi si kp g D) (fun u : Unit => wC G o (va_up f (11 + 5 * x + 2) y) st tb tn nu bi si kp g D) (fun r _ => r = nI (its f x 2)) := by
  refine Ki.of (by decide) (Nat.le_of_ble_eq_true rfl) ?_
  intro p e s m args below meth c A Q ls hx hb S0 hG hA h hret hl
  have S0 : CF p m c cX10_exchange 4 s args RX10 := S0
  have hl : lv_has ls 4 [(0, .ref (o 6)), (1, .int (nI x)), (2, .int (nI y))] := hl
  refine lv_aload_n hx hb dX10_exchange_0 rfl (lv_at hl 0 rfl) ?_
  refine lv_iload_n hx hb dX10_exchange_1 rfl (lv_at hl 1 rfl) ?_
  refine kPr_quick S0 hG h (by omega) dX10_exchange_2 ?_
  refine lv_istore_n hx hb dX10_exchange_3 rfl hl (by decide) rfl (fun ls hl => ?_)
  refine lv_aload_n hx hb dX10_exchange_4 rfl (lv_at hl 1 rfl) ?_
  refine lv_iload_n hx hb dX10_exchange_5 rfl (lv_at hl 2 rfl) ?_
  refine lv_iload_n hx hb dX10_exchange_6 rfl (lv_at hl 3 rfl) ?_
  refine kPs_quick S0 hG h (by omega) dX10_exchange_7 (fun H locs h => ?_)
  refine lv_iload_n hx hb dX10_exchange_8 rfl (lv_at hl 0 rfl) ?_
  exact hret _ () _ _ _ _ rfl h dX10_exchange_9
