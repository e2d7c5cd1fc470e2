variable {G : GT} {l : Launch} {o : Nat → Nat} {f st tb : Row} {tn : Nat} {nu : Nat → Int64} {bi si : Row} {kp : Nat} {g : Row} {D : DT}
set_option maxHeartbeats 4000000 in
set_option maxRecDepth 100000 in
theorem c_X10_tell {x : Int32} {k : Nat} (hk : k < 7) (hc : -1000000001 - x = nI k) : Ki G l yX10_tell cX10_tell 3 (some .int) (RM 1 0) [.ref (o 0), .int x] (wC G o f st tb tn nu bi si kp g D) (fun u : Unit => wC G o f (bump st k) tb tn nu bi si kp g D) (fun r _ => r = x) := by
  refine Ki.of (by decide) (Nat.le_of_ble_eq_true rfl) ?_
  intro p e s m args below meth c A Q ls hx hb S0 hG hA h hret hl
  have S0 : CF p m c cX10_tell 3 s args RX10 := S0
  have hl : lv_has ls 3 [(0, .ref (o 0)), (1, .int x)] := hl
  refine lv_ldc (v := -1000000001) hx hb S0.2.2.2.1 (S0.2.2.2.2 _ (rin6 _ (List.mem_of_getElem? (i := 6) rfl))) dX10_tell_0 ?_
  refine lv_iload_n hx hb dX10_tell_2 rfl (lv_at hl 1 rfl) ?_
  refine lv_isub hx hb dX10_tell_3 ?_
  refine tN hc ?_
  refine lv_istore_n hx hb dX10_tell_4 rfl hl (by decide) rfl (fun ls hl => ?_)
  refine lv_iload_n hx hb dX10_tell_5 rfl (lv_at hl 0 rfl) ?_
  refine n_zlt hx hb (by omega) (tgt := 25) dX10_tell_6 (by decide) ?_
  refine lv_iload_n hx hb dX10_tell_9 rfl (lv_at hl 0 rfl) ?_
  refine lv_bipush (v := nI 7) hx hb dX10_tell_10 (by decide) ?_
  refine n_cge hx hb (by omega) (by omega) (tgt := 25) dX10_tell_12 (by decide) (fun c12 => absurd c12 (by omega)) (fun c12 => ?_)
  refine lv_aload_n hx hb dX10_tell_15 rfl (lv_at hl 1 rfl) ?_
  refine gC_told S0 hG h dX10_tell_16 ?_
  refine lv_iload_n hx hb dX10_tell_19 rfl (lv_at hl 0 rfl) ?_
  refine lv_dup2_11 hx hb dX10_tell_20 rfl rfl ?_
  refine rC_told S0 hG h (by omega) dX10_tell_21 ?_
  refine lv_iconst (v := nI 1) hx hb dX10_tell_22 (by decide) ?_
  refine n_add hx hb dX10_tell_23 ?_
  refine sC_told S0 hG h (by omega) dX10_tell_24 (fun H locs h => ?_)
  refine lv_iload_n hx hb dX10_tell_25 rfl (lv_at hl 2 rfl) ?_
  exact hret _ () _ _ _ _ rfl h dX10_tell_26
