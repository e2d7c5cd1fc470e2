/-! the reference: minutes ahead -/
variable {G : GT} {l : Launch} {a : Nat → Nat} {f g o d st du tb bi si : Nat → Nat} {nu mo : Nat → Int64} {kp it tn fr to vl wr : Nat}
theorem kw_RX11_151 : GoodIn wsL_law (wsV RX11 151 RX11 yX11_minute (WS yX11_minute cX11_minute 5 none)) := gV (rin22 _ (List.mem_of_getElem? (i := 4) rfl)) (rin22 _ (List.mem_of_getElem? (i := 5) rfl)) (rin22 _ (List.mem_of_getElem? (i := 6) rfl)) (rin1 _ (List.mem_of_getElem? (i := 5) rfl)) (rin22 _ (List.mem_of_getElem? (i := 7) rfl))
theorem kdV_X11_minute : yX11_minute.cls = RX11 ∧ yX11_minute.cls ≠ "java/lang/invoke/MethodHandle" ∧ yX11_minute.cls ≠ "java/lang/invoke/VarHandle" ∧ (parseMethodDescriptor yX11_minute.desc).map (fun d => d.parameters.length) = some 0 := ⟨rfl, by decide +kernel, by decide +kernel, by decide +kernel⟩
set_option maxHeartbeats 4000000 in
set_option maxRecDepth 100000 in
theorem c_X11_minutesGo {n : Nat} (hI : Inv f) (h0 : f 0 + n ≤ 200000) : Kv G l yX11_minutesGo cX11_minutesGo 3 none (RM 9 183) [.ref (a 0), .int (nI n)] (wM G a f g o d st du tb bi si nu mo kp it tn fr to vl wr) (fun u : (Nat → Nat) × Nat => wM G a (goF f n) g o d st u.1 tb bi si nu mo kp u.2 tn fr to vl wr) (fun u => (n = 0 → u.2 = it) ∧ (0 < n → u.2 = timeF (goF f (n - 1)))) := by
  refine Kv.of (by decide) (Nat.le_of_ble_eq_true rfl) ?_
  intro p e s m args below meth c A Q ls hx hb S0 hG hA h hret hl
  have S0 : CF p m c cX11_minutesGo 3 s args RX11 := S0
  have hl : lv_has ls 3 [(0, .ref (a 0)), (1, .int (nI n))] := hl
  have lp2 : ∀ (kf : Nat) (i : Nat) (d1 : Nat → Nat) (t1 : Nat) (H : Heap) (locs : List Loc) (ls : Array Slot) (hi : i ≤ n) (ht : (i = 0 → t1 = it) ∧ (0 < i → t1 = timeF (goF f (i - 1)))), n - i < kf → WX G A s H locs (wM G a (goF f i) g o d st d1 tb bi si nu mo kp t1 tn fr to vl wr) → lv_has ls 3 [(0, .ref (a 0)), (1, .int (nI n)), (2, .int (nI i))] → W p l e (RM 9 183) s m args below meth c H locs 0 0 Q (F0 m 2 ls []) := by
    intro kf
    induction kf with
    | zero => intro i d1 t1 H locs ls hi ht hm; exact absurd hm (Nat.not_lt_zero _)
    | succ kf ih2 =>
      intro i d1 t1 H locs ls hi ht hm h hl
      have hI9 := goF_inv hI i (by omega)
      have h9 := goF_0 f i
      refine lv_iload_n hx hb dX11_minutesGo_2 rfl (lv_at hl 2 rfl) ?_
      refine lv_iload_n hx hb dX11_minutesGo_3 rfl (lv_at hl 1 rfl) ?_
      refine n_cge hx hb (by omega) (by omega) (tgt := 17) dX11_minutesGo_4 (by decide) (fun c4 => ?_) (fun c4 => ?_)
      ·
        have e9 : i = n := by omega
        subst e9
        exact hret (_, _) _ _ _ _ ht h dX11_minutesGo_17
      ·
        refine lv_aload_n hx hb dX11_minutesGo_7 rfl (lv_at hl 0 rfl) ?_
        refine cV_v0 S0 hG hA h hl.1 kw_RX11_151 kdV_X11_minute (c_X11_minute hI9 (by omega)) ⟨rfl, rfl, by decide, by decide, Nat.le_refl _, Nat.le_refl _⟩ rfl 11 0 rfl rfl rfl (Nat.le_of_ble_eq_true rfl) dX11_minutesGo_8 (fun _ => rfl) (fun u H locs hq h => ?_)
        have h : WX G A s _ _ (wM G a (goF f (i + 1)) g o d st u.1 tb bi si nu mo kp u.2 tn fr to vl wr) := h
        obtain ⟨u1, u2⟩ := u
        obtain rfl : u2 = _ := hq
        refine lv_iinc hx hb dX11_minutesGo_11 hl (k := 2) rfl (inc_1 _) (by decide) rfl (fun ls hl => ?_)
        refine lv_goto (tgt := 2) hx hb dX11_minutesGo_14 (by decide) ?_
        exact ih2 (i + 1) _ _ _ _ _ (by omega) ⟨fun q => absurd q (Nat.succ_ne_zero _), fun _ => rfl⟩ (by omega) h (lv_sub hl [1, 2, 0] rfl)
  refine lv_iconst (v := nI 0) hx hb dX11_minutesGo_0 (by decide) ?_
  refine lv_istore_n hx hb dX11_minutesGo_1 rfl hl (by decide) rfl (fun ls hl => ?_)
  exact lp2 _ 0 _ _ _ _ _ (Nat.zero_le _) ⟨fun _ => rfl, fun q => absurd q (Nat.lt_irrefl _)⟩ (Nat.lt_succ_self _) h (lv_sub hl [1, 2, 0] rfl)
theorem kw_RX11_163 : GoodIn wsL_law (wsV RX11 163 RX11 yX11_laysAside (WS yX11_laysAside cX11_laysAside 2 none)) := gV (rin23 _ (List.mem_of_getElem? (i := 11) rfl)) (rin23 _ (List.mem_of_getElem? (i := 12) rfl)) (rin23 _ (List.mem_of_getElem? (i := 13) rfl)) (rin1 _ (List.mem_of_getElem? (i := 5) rfl)) (rin23 _ (List.mem_of_getElem? (i := 14) rfl))
theorem kw_RX11_158 : GoodIn wsL_law (wsV RX11 158 RX11 yX11_minutesGo (WS yX11_minutesGo cX11_minutesGo 3 none)) := gV (rin22 _ (List.mem_of_getElem? (i := 0) rfl)) (rin22 _ (List.mem_of_getElem? (i := 1) rfl)) (rin22 _ (List.mem_of_getElem? (i := 2) rfl)) (rin1 _ (List.mem_of_getElem? (i := 5) rfl)) (rin22 _ (List.mem_of_getElem? (i := 3) rfl))
theorem kw_RX11_166 : GoodIn wsL_law (wsV RX11 166 RX11 yX11_takesBack (WS yX11_takesBack cX11_takesBack 3 (some .int))) := gV (rin23 _ (List.mem_of_getElem? (i := 15) rfl)) (rin23 _ (List.mem_of_getElem? (i := 16) rfl)) (rin23 _ (List.mem_of_getElem? (i := 17) rfl)) (rin1 _ (List.mem_of_getElem? (i := 5) rfl)) (rin23 _ (List.mem_of_getElem? (i := 18) rfl))
theorem kw_RX11_98 : GoodIn wsL_law (wsV RX11 98 RX11 yX11_harmonyNow (WS yX11_harmonyNow cX11_harmonyNow 1 (some .int))) := gV (rin13 _ (List.mem_of_getElem? (i := 5) rfl)) (rin13 _ (List.mem_of_getElem? (i := 6) rfl)) (rin13 _ (List.mem_of_getElem? (i := 7) rfl)) (rin1 _ (List.mem_of_getElem? (i := 5) rfl)) (rin13 _ (List.mem_of_getElem? (i := 8) rfl))
theorem kdV_X11_laysAside : yX11_laysAside.cls = RX11 ∧ yX11_laysAside.cls ≠ "java/lang/invoke/MethodHandle" ∧ yX11_laysAside.cls ≠ "java/lang/invoke/VarHandle" ∧ (parseMethodDescriptor yX11_laysAside.desc).map (fun d => d.parameters.length) = some 0 := ⟨rfl, by decide +kernel, by decide +kernel, by decide +kernel⟩
theorem kdV_X11_minutesGo : yX11_minutesGo.cls = RX11 ∧ yX11_minutesGo.cls ≠ "java/lang/invoke/MethodHandle" ∧ yX11_minutesGo.cls ≠ "java/lang/invoke/VarHandle" ∧ (parseMethodDescriptor yX11_minutesGo.desc).map (fun d => d.parameters.length) = some 1 := ⟨rfl, by decide +kernel, by decide +kernel, by decide +kernel⟩
theorem kdV_X11_takesBack : yX11_takesBack.cls = RX11 ∧ yX11_takesBack.cls ≠ "java/lang/invoke/MethodHandle" ∧ yX11_takesBack.cls ≠ "java/lang/invoke/VarHandle" ∧ (parseMethodDescriptor yX11_takesBack.desc).map (fun d => d.parameters.length) = some 1 := ⟨rfl, by decide +kernel, by decide +kernel, by decide +kernel⟩
theorem kdV_X11_harmonyNow : yX11_harmonyNow.cls = RX11 ∧ yX11_harmonyNow.cls ≠ "java/lang/invoke/MethodHandle" ∧ yX11_harmonyNow.cls ≠ "java/lang/invoke/VarHandle" ∧ (parseMethodDescriptor yX11_harmonyNow.desc).map (fun d => d.parameters.length) = some 0 := ⟨rfl, by decide +kernel, by decide +kernel, by decide +kernel⟩
set_option maxHeartbeats 4000000 in
set_option maxRecDepth 100000 in
theorem c_X11_behind {x : Int32} {n : Nat} (hI : Inv f) (h0 : f 0 + n ≤ 200000) (hw : x = -1 ∨ ∃ w, x = nI w ∧ w < 51) : Ki G l yX11_behind cX11_behind 3 (some .int) (RM 10 205) [.ref (a 0), .int x, .int (nI n)] (wM G a f g o d st du tb bi si nu mo kp it tn fr to vl wr) (fun u : (Nat → Nat) × Nat => wM G a f g o f st u.1 tb bi si nu mo kp u.2 tn fr to vl wr) (fun r u => r = valB (goF f n) x) := by
  refine Ki.of (by decide) (Nat.le_of_ble_eq_true rfl) ?_
  intro p e s m args below meth c A Q ls hx hb S0 hG hA h hret hl
  have S0 : CF p m c cX11_behind 3 s args RX11 := S0
  have hl : lv_has ls 3 [(0, .ref (a 0)), (1, .int x), (2, .int (nI n))] := hl
  refine lv_aload_n hx hb dX11_behind_0 rfl (lv_at hl 0 rfl) ?_
  refine cV_v0 S0 hG hA h hl.1 kw_RX11_163 kdV_X11_laysAside (c_X11_laysAside) ⟨rfl, rfl, by decide, by decide, Nat.le_refl _, Nat.le_refl _⟩ rfl 11 0 rfl rfl rfl (Nat.le_of_ble_eq_true rfl) dX11_behind_1 (fun _ => rfl) (fun u H locs hq h => ?_)
  refine lv_aload_n hx hb dX11_behind_4 rfl (lv_at hl 0 rfl) ?_
  refine lv_iload_n hx hb dX11_behind_5 rfl (lv_at hl 2 rfl) ?_
  refine cV_v0 S0 hG hA h hl.1 kw_RX11_158 kdV_X11_minutesGo (c_X11_minutesGo hI (by omega)) ⟨rfl, rfl, by decide, by decide, Nat.le_refl _, Nat.le_refl _⟩ rfl 11 0 rfl rfl rfl (Nat.le_of_ble_eq_true rfl) dX11_behind_6 (fun _ => rfl) (fun u H locs hq h => ?_)
  obtain ⟨u1, u2⟩ := u
  refine lv_aload_n hx hb dX11_behind_9 rfl (lv_at hl 0 rfl) ?_
  refine lv_iload_n hx hb dX11_behind_10 rfl (lv_at hl 1 rfl) ?_
  refine lv_iconst (v := -1) hx hb dX11_behind_11 (by decide) ?_
  refine lv_icmp_ne hx hb (tgt := 22) dX11_behind_12 (by decide) (fun c12 => ?_) (fun c12 => ?_)
  ·
    obtain ⟨w, rfl, hw2⟩ : ∃ w, x = nI w ∧ w < 51 := hw.resolve_left c12
    refine lv_aload_n hx hb dX11_behind_22 rfl (lv_at hl 0 rfl) ?_
    refine gM_s S0 hG h dX11_behind_23 ?_
    refine lv_iload_n hx hb dX11_behind_26 rfl (lv_at hl 1 rfl) ?_
    refine rM_s S0 hG h (by omega) dX11_behind_27 ?_
    refine cV_i0 S0 hG hA h hl.1 kw_RX11_166 kdV_X11_takesBack (c_X11_takesBack) ⟨rfl, rfl, by decide, by decide, Nat.le_refl _, Nat.le_refl _⟩ rfl 11 0 rfl rfl rfl (Nat.le_of_ble_eq_true rfl) dX11_behind_28 (fun _ => rfl) (fun r u H locs hq h => ?_)
    obtain rfl := hq
    exact hret _ (_, _) _ _ _ _ (valB_w _ (by omega)).symm h dX11_behind_31
  ·
    obtain rfl : x = -1 := c12
    refine lv_aload_n hx hb dX11_behind_15 rfl (lv_at hl 0 rfl) ?_
    refine cV_i0 S0 hG hA h hl.1 kw_RX11_98 kdV_X11_harmonyNow (c_X11_harmonyNow (goF_inv hI n h0)) ⟨rfl, rfl, by decide, by decide, Nat.le_refl _, Nat.le_refl _⟩ rfl 11 0 rfl rfl rfl (Nat.le_of_ble_eq_true rfl) dX11_behind_16 (fun _ => rfl) (fun r u H locs hq h => ?_)
    obtain rfl := hq
    refine lv_goto (tgt := 28) hx hb dX11_behind_19 (by decide) ?_
    refine cV_i0 S0 hG hA h hl.1 kw_RX11_166 kdV_X11_takesBack (c_X11_takesBack) ⟨rfl, rfl, by decide, by decide, Nat.le_refl _, Nat.le_refl _⟩ rfl 11 0 rfl rfl rfl (Nat.le_of_ble_eq_true rfl) dX11_behind_28 (fun _ => rfl) (fun r u H locs hq h => ?_)
    obtain rfl := hq
    exact hret _ (_, _) _ _ _ _ (valB_h _).symm h dX11_behind_31
theorem kw_RX11_76 : GoodIn wsL_law (wsV RX11 76 RX11 yX11_finds (WS yX11_finds cX11_finds 2 (some .int))) := gV (rin7 _ (List.mem_of_getElem? (i := 13) rfl)) (rin7 _ (List.mem_of_getElem? (i := 14) rfl)) (rin7 _ (List.mem_of_getElem? (i := 15) rfl)) (rin1 _ (List.mem_of_getElem? (i := 5) rfl)) (rin7 _ (List.mem_of_getElem? (i := 16) rfl))
theorem kdV_X11_finds : yX11_finds.cls = RX11 ∧ yX11_finds.cls ≠ "java/lang/invoke/MethodHandle" ∧ yX11_finds.cls ≠ "java/lang/invoke/VarHandle" ∧ (parseMethodDescriptor yX11_finds.desc).map (fun d => d.parameters.length) = some 1 := ⟨rfl, by decide +kernel, by decide +kernel, by decide +kernel⟩
set_option maxHeartbeats 4000000 in
set_option maxRecDepth 100000 in
theorem c_X11_toldAt {n : Nat} (hn : n ≤ 301) : Ki G l yX11_toldAt cX11_toldAt 3 (some .int) (RM 2 22) [.ref (a 0), .int (nI n)] (wM G a f g o d st du tb bi si nu mo kp it tn fr to vl wr) (fun u : Nat → Nat => wM G a d g o d u du tb bi si nu mo kp it tn fr to vl wr) (fun r u => (n ≤ 300 ∧ r = nI n ∧ u = st) ∨ (300 < n ∧ r = -1000000004 ∧ u = bump st 3)) := by
  refine Ki.of (by decide) (Nat.le_of_ble_eq_true rfl) ?_
  intro p e s m args below meth c A Q ls hx hb S0 hG hA h hret hl
  have S0 : CF p m c cX11_toldAt 3 s args RX11 := S0
  have hl : lv_has ls 3 [(0, .ref (a 0)), (1, .int (nI n))] := hl
  refine lv_aload_n hx hb dX11_toldAt_0 rfl (lv_at hl 0 rfl) ?_
  refine lv_iload_n hx hb dX11_toldAt_1 rfl (lv_at hl 1 rfl) ?_
  refine cV_i0 S0 hG hA h hl.1 kw_RX11_166 kdV_X11_takesBack (c_X11_takesBack) ⟨rfl, rfl, by decide, by decide, Nat.le_refl _, Nat.le_refl _⟩ rfl 11 0 rfl rfl rfl (Nat.le_of_ble_eq_true rfl) dX11_toldAt_2 (fun _ => rfl) (fun r u H locs hq h => ?_)
  obtain rfl := hq
  refine lv_istore_n hx hb dX11_toldAt_5 rfl hl (by decide) rfl (fun ls hl => ?_)
  refine lv_iload_n hx hb dX11_toldAt_6 rfl (lv_at hl 0 rfl) ?_
  refine lv_sipush (v := nI 300) hx hb dX11_toldAt_7 (by decide) ?_
  refine n_cle hx hb (by omega) (by omega) (tgt := 22) dX11_toldAt_10 (by decide) (fun c10 => ?_) (fun c10 => ?_)
  ·
    refine lv_iload_n hx hb dX11_toldAt_22 rfl (lv_at hl 0 rfl) ?_
    exact hret _ _ _ _ _ _ (Or.inl ⟨by omega, rfl, rfl⟩) h dX11_toldAt_23
  ·
    refine lv_aload_n hx hb dX11_toldAt_13 rfl (lv_at hl 1 rfl) ?_
    refine lv_ldc (v := -1000000004) hx hb S0.2.2.2.1 (S0.2.2.2.2 _ (rin24 _ (List.mem_of_getElem? (i := 16) rfl))) dX11_toldAt_14 ?_
    refine cV_i0 S0 hG hA h hl.1 kw_RX11_76 kdV_X11_finds (c_X11_finds (k := 3) (by decide) (by decide)) ⟨rfl, rfl, by decide, by decide, Nat.le_refl _, Nat.le_refl _⟩ rfl 11 0 rfl rfl rfl (Nat.le_of_ble_eq_true rfl) dX11_toldAt_16 (fun _ => rfl) (fun r u H locs hq h => ?_)
    obtain rfl := hq
    refine lv_goto (tgt := 23) hx hb dX11_toldAt_19 (by decide) ?_
    exact hret _ _ _ _ _ _ (Or.inr ⟨by omega, rfl, rfl⟩) h dX11_toldAt_23
