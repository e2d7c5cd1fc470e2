/-! the law's loop -/
set_option maxHeartbeats 4000000 in
set_option maxRecDepth 100000 in
theorem law_loop {p : Program} {l : Launch} {e : Env} {s : State} {m : MethodId} {below : List Frame} {meth : Method} {c : Code} {b L cl sl : Nat} {xs : Nat → Int32} {G : GT} {A : Nat → Prop} {o a : Nat → Nat} (S0 : CF p m c cL_law 4 s #[Value.ref b] RL) (hG : GX G A s) (hA : ∀ q, s.heap.size ≤ q → A q) (hX : va_X b L xs s s.heap) (hbl : b < s.heap.size) (hbA : ¬ A b) (hL : L ≤ 3072) (hcl : cl ≤ 600000) (hsl : sl ≤ 7302250) (hr : meth.sig.returnType = ret) (hlocks : meth.locks = false) (hAs : ∀ q, A q → s.heap.size ≤ q) : ∀ (n i : Nat), i ≤ L → L + 1 ≤ i + n → ∀ (f st tb : Row) (tn : Nat) (nu : Nat → Int64) (bi si : Row) (kp : Nat) (g g9 : Row) (D : DT) (oo d du : Row) (mo : Nat → Int64) (it fr to vl wr : Nat) (H : Heap) (locs : List Loc) (ls : Array Slot), Ok f tb tn bi si kp g → (kp ≠ 0 → g = g9) → WX G A s H locs (wC G o f st tb tn nu bi si kp g D ++ wM G a f g9 oo d st du tb bi si nu mo kp it tn fr to vl wr) → lv_has ls 4 [(0, .ref b), (1, .ref (o 0)), (2, .ref (a 0)), (3, .int (nI i))] → W p l e room_1 s m #[Value.ref b] below meth c H locs cl sl (lw_Z below #[Value.ref b] s) (F0 m 18 ls []) := by
  have hx := S0.1
  have hb := S0.2.1
  intro n
  induction n with
  | zero => intro i h1 h2; exact absurd h2 (by omega)
  | succ n ih =>
    intro i hi1 hi2 f st tb tn nu bi si kp g g9 D oo d du mo it fr to vl wr H locs ls hOk hgg h hl
    refine lv_iload_n hx hb dL_law_18 rfl (lv_at hl 3 rfl) ?_
    refine lv_aload_n hx hb dL_law_19 rfl (lv_at hl 0 rfl) ?_
    refine va_slen hx hb hX hbl hbA h.2.2 dL_law_20 ?_
    refine tN (t := L) rfl ?_
    refine lv_bipush (v := nI 6) hx hb dL_law_21 (by decide) ?_
    refine lv_isub hx hb dL_law_23 ?_
    refine lv_icmp_gt hx hb (tgt := 1270) dL_law_24 (by decide) (fun c24 => ?_) (fun c24 => ?_)
    · refine lv_iconst (v := 1) hx hb dL_law_1270 (by decide) ?_
      refine va_forget (fun q hq => hAs _ (h.2.2.2.2 q hq)) ?_
      refine W.widen (k := 600000) (n := 7302250) hcl hsl ?_
      exact lw_ret hx hb hr hlocks dL_law_1271
    · have hi : i + 6 ≤ L := by
        rcases Nat.lt_or_ge L (i + 6) with q | q
        · exfalso
          apply c24
          refine Int32.lt_iff_toInt_lt.mpr ?_
          rw [pk_sub_toInt (by omega) (by omega), nI_toInt (by omega)]
          omega
        · exact q
      have KK : LK p l e s m below meth c (lw_Z below #[Value.ref b] s) G A o a b i cl sl := by
        intro f st tb tn nu bi si kp g g9 D oo d du mo it fr to vl wr H locs ls hOk hgg h hl
        refine lv_iinc hx hb dL_law_1264 hl (k := 3) rfl (inc_c _ 6) (by decide) rfl (fun ls hl => ?_)
        refine lv_goto (tgt := 18) hx hb dL_law_1267 (by decide) ?_
        exact ih (i + 6) (by omega) (by omega) f st tb tn nu bi si kp g g9 D oo d du mo it fr to vl wr _ _ _ hOk hgg h (lv_sub hl [1, 2, 3, 0] rfl)
      refine lv_aload_n hx hb dL_law_27 rfl (lv_at hl 0 rfl) ?_
      refine lv_iload_n hx hb dL_law_28 rfl (lv_at hl 3 rfl) ?_
      refine va_sld hx hb hX hbl hbA h.2.2 (vp_in_nI (show i < L by omega) (by omega)) dL_law_29 ?_
      refine lv_bipush (v := nI 63) hx hb dL_law_30 (by decide) ?_
      refine lv_iand hx hb dL_law_32 ?_
      generalize xs (nI i).toNatClampNeg &&& nI 63 = T9
      rcases (show T9.toInt = 0 ∨ T9.toInt = 1 ∨ T9.toInt = 2 ∨ T9.toInt = 3 ∨ T9.toInt = 4 ∨ T9.toInt = 5 ∨ T9.toInt = 6 ∨ T9.toInt = 7 ∨ T9.toInt = 8 ∨ T9.toInt = 9 ∨ T9.toInt = 10 ∨ T9.toInt = 11 ∨ T9.toInt = 12 ∨ T9.toInt = 13 ∨ T9.toInt = 14 ∨ T9.toInt = 15 ∨ T9.toInt = 16 ∨ T9.toInt = 17 ∨ T9.toInt = 18 ∨ T9.toInt = 19 ∨ T9.toInt = 20 ∨ T9.toInt = 21 ∨ T9.toInt = 22 ∨ T9.toInt = 23 ∨ T9.toInt = 24 ∨ T9.toInt = 25 ∨ T9.toInt = 26 ∨ T9.toInt = 27 ∨ T9.toInt = 28 ∨ T9.toInt = 29 ∨ T9.toInt = 30 ∨ T9.toInt = 31 ∨ T9.toInt = 32 ∨ T9.toInt = 33 ∨ T9.toInt = 34 ∨ (T9.toInt < 0 ∨ 34 < T9.toInt) by omega) with e9 | e9 | e9 | e9 | e9 | e9 | e9 | e9 | e9 | e9 | e9 | e9 | e9 | e9 | e9 | e9 | e9 | e9 | e9 | e9 | e9 | e9 | e9 | e9 | e9 | e9 | e9 | e9 | e9 | e9 | e9 | e9 | e9 | e9 | e9 | e9
      · refine i_swIn hx hb e9 (off := 155) (tgt := 188) dL_law_33 (by decide) (by decide) rfl (by decide) ?_
        exact lc_score S0 hG hA hX hbl hbA hL hi hcl hsl KK hOk hgg h hl
      · refine i_swIn hx hb e9 (off := 188) (tgt := 221) dL_law_33 (by decide) (by decide) rfl (by decide) ?_
        exact lc_bell S0 hG hA hX hbl hbA hL hi hcl hsl KK hOk hgg h hl
      · refine i_swIn hx hb e9 (off := 221) (tgt := 254) dL_law_33 (by decide) (by decide) rfl (by decide) ?_
        exact lc_now S0 hG hA hX hbl hbA hL hi hcl hsl KK hOk hgg h hl
      · refine i_swIn hx hb e9 (off := 244) (tgt := 277) dL_law_33 (by decide) (by decide) rfl (by decide) ?_
        exact lc_who S0 hG hA hX hbl hbA hL hi hcl hsl KK hOk hgg h hl
      · refine i_swIn hx hb e9 (off := 267) (tgt := 300) dL_law_33 (by decide) (by decide) rfl (by decide) ?_
        exact lc_person S0 hG hA hX hbl hbA hL hi hcl hsl KK hOk hgg h hl
      · refine i_swIn hx hb e9 (off := 300) (tgt := 333) dL_law_33 (by decide) (by decide) rfl (by decide) ?_
        exact lc_of S0 hG hA hX hbl hbA hL hi hcl hsl KK hOk hgg h hl
      · refine i_swIn hx hb e9 (off := 333) (tgt := 366) dL_law_33 (by decide) (by decide) rfl (by decide) ?_
        exact lc_set S0 hG hA hX hbl hbA hL hi hcl hsl KK hOk hgg h hl
      · refine i_swIn hx hb e9 (off := 376) (tgt := 409) dL_law_33 (by decide) (by decide) rfl (by decide) ?_
        exact lc_turn S0 hG hA hX hbl hbA hL hi hcl hsl KK hOk hgg h hl
      · refine i_swIn hx hb e9 (off := 409) (tgt := 442) dL_law_33 (by decide) (by decide) rfl (by decide) ?_
        exact lc_as S0 hG hA hX hbl hbA hL hi hcl hsl KK hOk hgg h hl
      · refine i_swIn hx hb e9 (off := 442) (tgt := 475) dL_law_33 (by decide) (by decide) rfl (by decide) ?_
        exact lc_minutes S0 hG hA hX hbl hbA hL hi hcl hsl KK hOk hgg h hl
      · refine i_swIn hx hb e9 (off := 465) (tgt := 498) dL_law_33 (by decide) (by decide) rfl (by decide) ?_
        exact lc_on S0 hG hA hX hbl hbA hL hi hcl hsl KK hOk hgg h hl
      · refine i_swIn hx hb e9 (off := 508) (tgt := 541) dL_law_33 (by decide) (by decide) rfl (by decide) ?_
        exact lc_harmony S0 hG hA hX hbl hbA hL hi hcl hsl KK hOk hgg h hl
      · refine i_swIn hx hb e9 (off := 531) (tgt := 564) dL_law_33 (by decide) (by decide) rfl (by decide) ?_
        exact lc_comes S0 hG hA hX hbl hbA hL hi hcl hsl KK hOk hgg h hl
      · refine i_swIn hx hb e9 (off := 564) (tgt := 597) dL_law_33 (by decide) (by decide) rfl (by decide) ?_
        exact lc_plays S0 hG hA hX hbl hbA hL hi hcl hsl KK hOk hgg h hl
      · refine i_swIn hx hb e9 (off := 587) (tgt := 620) dL_law_33 (by decide) (by decide) rfl (by decide) ?_
        exact lc_meet S0 hG hA hX hbl hbA hL hi hcl hsl KK hOk hgg h hl
      · refine i_swIn hx hb e9 (off := 620) (tgt := 653) dL_law_33 (by decide) (by decide) rfl (by decide) ?_
        exact lc_begin S0 hG hA hX hbl hbA hL hi hcl hsl KK hOk hgg h hl
      · refine i_swIn hx hb e9 (off := 653) (tgt := 686) dL_law_33 (by decide) (by decide) rfl (by decide) ?_
        exact lc_kind S0 hG hA hX hbl hbA hL hi hcl hsl KK hOk hgg h hl
      · refine i_swIn hx hb e9 (off := 686) (tgt := 719) dL_law_33 (by decide) (by decide) rfl (by decide) ?_
        exact lc_quick S0 hG hA hX hbl hbA hL hi hcl hsl KK hOk hgg h hl
      · refine i_swIn hx hb e9 (off := 729) (tgt := 762) dL_law_33 (by decide) (by decide) rfl (by decide) ?_
        exact lc_compose S0 hG hA hX hbl hbA hL hi hcl hsl KK hOk hgg h hl
      · refine i_swIn hx hb e9 (off := 762) (tgt := 795) dL_law_33 (by decide) (by decide) rfl (by decide) ?_
        exact lc_deceive S0 hG hA hX hbl hbA hL hi hcl hsl KK hOk hgg h hl
      · refine i_swIn hx hb e9 (off := 795) (tgt := 828) dL_law_33 (by decide) (by decide) rfl (by decide) ?_
        exact lc_worst S0 hG hA hX hbl hbA hL hi hcl hsl KK hOk hgg h hl
      · refine i_swIn hx hb e9 (off := 818) (tgt := 851) dL_law_33 (by decide) (by decide) rfl (by decide) ?_
        exact lc_feed S0 hG hA hX hbl hbA hL hi hcl hsl KK hOk hgg h hl
      · refine i_swIn hx hb e9 (off := 851) (tgt := 884) dL_law_33 (by decide) (by decide) rfl (by decide) ?_
        exact lc_wipe S0 hG hA hX hbl hbA hL hi hcl hsl KK hOk hgg h hl
      · refine i_swIn hx hb e9 (off := 864) (tgt := 897) dL_law_33 (by decide) (by decide) rfl (by decide) ?_
        exact lc_interval S0 hG hA hX hbl hbA hL hi hcl hsl KK hOk hgg h hl
      · refine i_swIn hx hb e9 (off := 877) (tgt := 910) dL_law_33 (by decide) (by decide) rfl (by decide) ?_
        exact lc_sheet S0 hG hA hX hbl hbA hL hi hcl hsl KK hOk hgg h hl
      · refine i_swIn hx hb e9 (off := 920) (tgt := 953) dL_law_33 (by decide) (by decide) rfl (by decide) ?_
        exact lc_write S0 hG hA hX hbl hbA hL hi hcl hsl KK hOk hgg h hl
      · refine i_swIn hx hb e9 (off := 994) (tgt := 1027) dL_law_33 (by decide) (by decide) rfl (by decide) ?_
        exact lc_copy S0 hG hA hX hbl hbA hL hi hcl hsl KK hOk hgg h hl
      · refine i_swIn hx hb e9 (off := 1057) (tgt := 1090) dL_law_33 (by decide) (by decide) rfl (by decide) ?_
        exact lc_lays S0 hG hA hX hbl hbA hL hi hcl hsl KK hOk hgg h hl
      · refine i_swIn hx hb e9 (off := 1080) (tgt := 1113) dL_law_33 (by decide) (by decide) rfl (by decide) ?_
        exact lc_book S0 hG hA hX hbl hbA hL hi hcl hsl KK hOk hgg h hl
      · refine i_swIn hx hb e9 (off := 1113) (tgt := 1146) dL_law_33 (by decide) (by decide) rfl (by decide) ?_
        exact lc_read S0 hG hA hX hbl hbA hL hi hcl hsl KK hOk hgg h hl
      · refine i_swIn hx hb e9 (off := 1146) (tgt := 1179) dL_law_33 (by decide) (by decide) rfl (by decide) ?_
        exact lc_image S0 hG hA hX hbl hbA hL hi hcl hsl KK hOk hgg h hl
      · refine i_swIn hx hb e9 (off := 1159) (tgt := 1192) dL_law_33 (by decide) (by decide) rfl (by decide) ?_
        exact lc_undo S0 hG hA hX hbl hbA hL hi hcl hsl KK hOk hgg h hl
      · refine i_swIn hx hb e9 (off := 1172) (tgt := 1205) dL_law_33 (by decide) (by decide) rfl (by decide) ?_
        exact lc_tear S0 hG hA hX hbl hbA hL hi hcl hsl KK hOk hgg h hl
      · refine i_swIn hx hb e9 (off := 1185) (tgt := 1218) dL_law_33 (by decide) (by decide) rfl (by decide) ?_
        exact lc_count S0 hG hA hX hbl hbA hL hi hcl hsl KK hOk hgg h hl
      · refine i_swIn hx hb e9 (off := 1208) (tgt := 1241) dL_law_33 (by decide) (by decide) rfl (by decide) ?_
        exact lc_status S0 hG hA hX hbl hbA hL hi hcl hsl KK hOk hgg h hl
      · refine lv_tableOut hx hb (tgt := 1264) dL_law_33 (by omega) (by decide) ?_
        exact KK f st tb tn nu bi si kp g g9 D oo d du mo it fr to vl wr _ _ _ hOk hgg h hl
